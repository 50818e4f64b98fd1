theorem mw_794 : (Cond.methodLink RL 75 yX11_put) ∈ gx_G := gx_mem 794 (by decide +kernel) (by decide +kernel)
theorem mw_795 : (Cond.instanceMethod yX11_put) ∈ gx_G := gx_mem 795 (by decide +kernel) (by decide +kernel)
theorem mw_796 : (Cond.selects RX11 yX11_put yX11_put) ∈ gx_G := gx_mem 796 (by decide +kernel) (by decide +kernel)
theorem mw_797 : (Cond.code yX11_put cX11_put 5 (some .int)) ∈ gx_G := gx_mem 797 (by decide +kernel) (by decide +kernel)
theorem mw_820 : (Cond.methodLink RL 79 yX11_give) ∈ gx_G := gx_mem 820 (by decide +kernel) (by decide +kernel)
theorem mw_821 : (Cond.instanceMethod yX11_give) ∈ gx_G := gx_mem 821 (by decide +kernel) (by decide +kernel)
theorem mw_822 : (Cond.selects RX11 yX11_give yX11_give) ∈ gx_G := gx_mem 822 (by decide +kernel) (by decide +kernel)
theorem mw_823 : (Cond.code yX11_give cX11_give 3 (some .int)) ∈ gx_G := gx_mem 823 (by decide +kernel) (by decide +kernel)
theorem mw_833 : (Cond.methodLink RL 83 yX11_run) ∈ gx_G := gx_mem 833 (by decide +kernel) (by decide +kernel)
theorem mw_834 : (Cond.instanceMethod yX11_run) ∈ gx_G := gx_mem 834 (by decide +kernel) (by decide +kernel)
theorem mw_835 : (Cond.selects RX11 yX11_run yX11_run) ∈ gx_G := gx_mem 835 (by decide +kernel) (by decide +kernel)
theorem mw_836 : (Cond.code yX11_run cX11_run 5 (some .int)) ∈ gx_G := gx_mem 836 (by decide +kernel) (by decide +kernel)
theorem mw_934 : (Cond.methodLink RL 87 yX11_day) ∈ gx_G := gx_mem 934 (by decide +kernel) (by decide +kernel)
theorem mw_935 : (Cond.instanceMethod yX11_day) ∈ gx_G := gx_mem 935 (by decide +kernel) (by decide +kernel)
theorem mw_936 : (Cond.selects RX11 yX11_day yX11_day) ∈ gx_G := gx_mem 936 (by decide +kernel) (by decide +kernel)
theorem mw_937 : (Cond.code yX11_day cX11_day 7 (some .int)) ∈ gx_G := gx_mem 937 (by decide +kernel) (by decide +kernel)
theorem mw_1004 : (Cond.methodLink RL 91 yX11_undo) ∈ gx_G := gx_mem 1004 (by decide +kernel) (by decide +kernel)
theorem mw_1005 : (Cond.instanceMethod yX11_undo) ∈ gx_G := gx_mem 1005 (by decide +kernel) (by decide +kernel)
theorem mw_1006 : (Cond.selects RX11 yX11_undo yX11_undo) ∈ gx_G := gx_mem 1006 (by decide +kernel) (by decide +kernel)
theorem mw_1007 : (Cond.code yX11_undo cX11_undo 1 (some .int)) ∈ gx_G := gx_mem 1007 (by decide +kernel) (by decide +kernel)
theorem mw_1012 : (Cond.methodLink RL 95 yX11_where) ∈ gx_G := gx_mem 1012 (by decide +kernel) (by decide +kernel)
theorem mw_1013 : (Cond.instanceMethod yX11_where) ∈ gx_G := gx_mem 1013 (by decide +kernel) (by decide +kernel)
theorem mw_1014 : (Cond.selects RX11 yX11_where yX11_where) ∈ gx_G := gx_mem 1014 (by decide +kernel) (by decide +kernel)
theorem mw_1015 : (Cond.code yX11_where cX11_where 4 (some .int)) ∈ gx_G := gx_mem 1015 (by decide +kernel) (by decide +kernel)
theorem mw_1820 : (Cond.methodLink RL 94 yX12_undo) ∈ gx_G := gx_mem 1820 (by decide +kernel) (by decide +kernel)
theorem mw_1821 : (Cond.instanceMethod yX12_undo) ∈ gx_G := gx_mem 1821 (by decide +kernel) (by decide +kernel)
theorem mw_1822 : (Cond.selects RX12 yX12_undo yX12_undo) ∈ gx_G := gx_mem 1822 (by decide +kernel) (by decide +kernel)
theorem mw_1823 : (Cond.code yX12_undo cX12_undo 2 (some .int)) ∈ gx_G := gx_mem 1823 (by decide +kernel) (by decide +kernel)
theorem mw_1845 : (Cond.methodLink RL 78 yX12_put) ∈ gx_G := gx_mem 1845 (by decide +kernel) (by decide +kernel)
theorem mw_1846 : (Cond.instanceMethod yX12_put) ∈ gx_G := gx_mem 1846 (by decide +kernel) (by decide +kernel)
theorem mw_1847 : (Cond.selects RX12 yX12_put yX12_put) ∈ gx_G := gx_mem 1847 (by decide +kernel) (by decide +kernel)
theorem mw_1848 : (Cond.code yX12_put cX12_put 6 (some .int)) ∈ gx_G := gx_mem 1848 (by decide +kernel) (by decide +kernel)
theorem mw_1863 : (Cond.methodLink RL 82 yX12_give) ∈ gx_G := gx_mem 1863 (by decide +kernel) (by decide +kernel)
theorem mw_1864 : (Cond.instanceMethod yX12_give) ∈ gx_G := gx_mem 1864 (by decide +kernel) (by decide +kernel)
theorem mw_1865 : (Cond.selects RX12 yX12_give yX12_give) ∈ gx_G := gx_mem 1865 (by decide +kernel) (by decide +kernel)
theorem mw_1866 : (Cond.code yX12_give cX12_give 4 (some .int)) ∈ gx_G := gx_mem 1866 (by decide +kernel) (by decide +kernel)
theorem mw_1871 : (Cond.methodLink RL 86 yX12_run) ∈ gx_G := gx_mem 1871 (by decide +kernel) (by decide +kernel)
theorem mw_1872 : (Cond.instanceMethod yX12_run) ∈ gx_G := gx_mem 1872 (by decide +kernel) (by decide +kernel)
theorem mw_1873 : (Cond.selects RX12 yX12_run yX12_run) ∈ gx_G := gx_mem 1873 (by decide +kernel) (by decide +kernel)
theorem mw_1874 : (Cond.code yX12_run cX12_run 5 (some .int)) ∈ gx_G := gx_mem 1874 (by decide +kernel) (by decide +kernel)
theorem mw_1909 : (Cond.methodLink RL 90 yX12_day) ∈ gx_G := gx_mem 1909 (by decide +kernel) (by decide +kernel)
theorem mw_1910 : (Cond.instanceMethod yX12_day) ∈ gx_G := gx_mem 1910 (by decide +kernel) (by decide +kernel)
theorem mw_1911 : (Cond.selects RX12 yX12_day yX12_day) ∈ gx_G := gx_mem 1911 (by decide +kernel) (by decide +kernel)
theorem mw_1912 : (Cond.code yX12_day cX12_day 6 (some .int)) ∈ gx_G := gx_mem 1912 (by decide +kernel) (by decide +kernel)
theorem mw_1923 : (Cond.methodLink RL 98 yX12_where) ∈ gx_G := gx_mem 1923 (by decide +kernel) (by decide +kernel)
theorem mw_1924 : (Cond.instanceMethod yX12_where) ∈ gx_G := gx_mem 1924 (by decide +kernel) (by decide +kernel)
theorem mw_1925 : (Cond.selects RX12 yX12_where yX12_where) ∈ gx_G := gx_mem 1925 (by decide +kernel) (by decide +kernel)
theorem mw_1926 : (Cond.code yX12_where cX12_where 3 (some .int)) ∈ gx_G := gx_mem 1926 (by decide +kernel) (by decide +kernel)
theorem cw_L_75 : gx_Wv RL 75 yX11_put cX11_put 5 (some .int) 4 := ⟨⟨mw_794, mw_795, mw_796, mw_89, mw_797⟩, by decide +kernel⟩
theorem cw_L_78 : gx_Wv RL 78 yX12_put cX12_put 6 (some .int) 4 := ⟨⟨mw_1845, mw_1846, mw_1847, mw_101, mw_1848⟩, by decide +kernel⟩
theorem cw_L_79 : gx_Wv RL 79 yX11_give cX11_give 3 (some .int) 2 := ⟨⟨mw_820, mw_821, mw_822, mw_89, mw_823⟩, by decide +kernel⟩
theorem cw_L_82 : gx_Wv RL 82 yX12_give cX12_give 4 (some .int) 2 := ⟨⟨mw_1863, mw_1864, mw_1865, mw_101, mw_1866⟩, by decide +kernel⟩
theorem cw_L_83 : gx_Wv RL 83 yX11_run cX11_run 5 (some .int) 1 := ⟨⟨mw_833, mw_834, mw_835, mw_89, mw_836⟩, by decide +kernel⟩
theorem cw_L_86 : gx_Wv RL 86 yX12_run cX12_run 5 (some .int) 1 := ⟨⟨mw_1871, mw_1872, mw_1873, mw_101, mw_1874⟩, by decide +kernel⟩
theorem cw_L_87 : gx_Wv RL 87 yX11_day cX11_day 7 (some .int) 0 := ⟨⟨mw_934, mw_935, mw_936, mw_89, mw_937⟩, by decide +kernel⟩
theorem cw_L_90 : gx_Wv RL 90 yX12_day cX12_day 6 (some .int) 0 := ⟨⟨mw_1909, mw_1910, mw_1911, mw_101, mw_1912⟩, by decide +kernel⟩
theorem cw_L_91 : gx_Wv RL 91 yX11_undo cX11_undo 1 (some .int) 0 := ⟨⟨mw_1004, mw_1005, mw_1006, mw_89, mw_1007⟩, by decide +kernel⟩
theorem cw_L_94 : gx_Wv RL 94 yX12_undo cX12_undo 2 (some .int) 0 := ⟨⟨mw_1820, mw_1821, mw_1822, mw_101, mw_1823⟩, by decide +kernel⟩
theorem cw_L_95 : gx_Wv RL 95 yX11_where cX11_where 4 (some .int) 2 := ⟨⟨mw_1012, mw_1013, mw_1014, mw_89, mw_1015⟩, by decide +kernel⟩
theorem cw_L_98 : gx_Wv RL 98 yX12_where cX12_where 3 (some .int) 2 := ⟨⟨mw_1923, mw_1924, mw_1925, mw_101, mw_1926⟩, by decide +kernel⟩
theorem dL_law_568 : decode cL_law 568 = .ok (.aload_n 1, 1) := by decide +kernel
theorem dL_law_569 : decode cL_law 569 = .ok (.aload_n 0, 1) := by decide +kernel
theorem dL_law_570 : decode cL_law 570 = .ok (.iload 4, 2) := by decide +kernel
theorem dL_law_572 : decode cL_law 572 = .ok (.iconst 1, 1) := by decide +kernel
theorem dL_law_573 : decode cL_law 573 = .ok (.iadd, 1) := by decide +kernel
theorem dL_law_574 : decode cL_law 574 = .ok (.iaload, 1) := by decide +kernel
theorem dL_law_575 : decode cL_law 575 = .ok (.aload_n 0, 1) := by decide +kernel
theorem dL_law_576 : decode cL_law 576 = .ok (.iload 4, 2) := by decide +kernel
theorem dL_law_578 : decode cL_law 578 = .ok (.iconst 2, 1) := by decide +kernel
theorem dL_law_579 : decode cL_law 579 = .ok (.iadd, 1) := by decide +kernel
theorem dL_law_580 : decode cL_law 580 = .ok (.iaload, 1) := by decide +kernel
theorem dL_law_581 : decode cL_law 581 = .ok (.aload_n 0, 1) := by decide +kernel
theorem dL_law_582 : decode cL_law 582 = .ok (.iload 4, 2) := by decide +kernel
theorem dL_law_584 : decode cL_law 584 = .ok (.iconst 3, 1) := by decide +kernel
theorem dL_law_585 : decode cL_law 585 = .ok (.iadd, 1) := by decide +kernel
theorem dL_law_586 : decode cL_law 586 = .ok (.iaload, 1) := by decide +kernel
theorem dL_law_587 : decode cL_law 587 = .ok (.aload_n 0, 1) := by decide +kernel
theorem dL_law_588 : decode cL_law 588 = .ok (.iload 4, 2) := by decide +kernel
theorem dL_law_590 : decode cL_law 590 = .ok (.iconst 4, 1) := by decide +kernel
theorem dL_law_591 : decode cL_law 591 = .ok (.iadd, 1) := by decide +kernel
theorem dL_law_592 : decode cL_law 592 = .ok (.iaload, 1) := by decide +kernel
theorem dL_law_593 : decode cL_law 593 = .ok (.invokevirtual 75, 3) := by decide +kernel
theorem dL_law_596 : decode cL_law 596 = .ok (.aload_n 2, 1) := by decide +kernel
theorem dL_law_597 : decode cL_law 597 = .ok (.aload_n 0, 1) := by decide +kernel
theorem dL_law_598 : decode cL_law 598 = .ok (.iload 4, 2) := by decide +kernel
theorem dL_law_600 : decode cL_law 600 = .ok (.iconst 1, 1) := by decide +kernel
theorem dL_law_601 : decode cL_law 601 = .ok (.iadd, 1) := by decide +kernel
theorem dL_law_602 : decode cL_law 602 = .ok (.iaload, 1) := by decide +kernel
theorem dL_law_603 : decode cL_law 603 = .ok (.aload_n 0, 1) := by decide +kernel
theorem dL_law_604 : decode cL_law 604 = .ok (.iload 4, 2) := by decide +kernel
theorem dL_law_606 : decode cL_law 606 = .ok (.iconst 2, 1) := by decide +kernel
theorem dL_law_607 : decode cL_law 607 = .ok (.iadd, 1) := by decide +kernel
theorem dL_law_608 : decode cL_law 608 = .ok (.iaload, 1) := by decide +kernel
theorem dL_law_609 : decode cL_law 609 = .ok (.aload_n 0, 1) := by decide +kernel
theorem dL_law_610 : decode cL_law 610 = .ok (.iload 4, 2) := by decide +kernel
theorem dL_law_612 : decode cL_law 612 = .ok (.iconst 3, 1) := by decide +kernel
theorem dL_law_613 : decode cL_law 613 = .ok (.iadd, 1) := by decide +kernel
theorem dL_law_614 : decode cL_law 614 = .ok (.iaload, 1) := by decide +kernel
theorem dL_law_615 : decode cL_law 615 = .ok (.aload_n 0, 1) := by decide +kernel
theorem dL_law_616 : decode cL_law 616 = .ok (.iload 4, 2) := by decide +kernel
theorem dL_law_618 : decode cL_law 618 = .ok (.iconst 4, 1) := by decide +kernel
theorem dL_law_619 : decode cL_law 619 = .ok (.iadd, 1) := by decide +kernel
theorem dL_law_620 : decode cL_law 620 = .ok (.iaload, 1) := by decide +kernel
theorem dL_law_621 : decode cL_law 621 = .ok (.invokevirtual 78, 3) := by decide +kernel
theorem dL_law_624 : decode cL_law 624 = .ok (.if_icmp .eq 1121, 3) := by decide +kernel
theorem dL_law_629 : decode cL_law 629 = .ok (.aload_n 1, 1) := by decide +kernel
theorem dL_law_630 : decode cL_law 630 = .ok (.aload_n 0, 1) := by decide +kernel
theorem dL_law_631 : decode cL_law 631 = .ok (.iload 4, 2) := by decide +kernel
theorem dL_law_633 : decode cL_law 633 = .ok (.iconst 1, 1) := by decide +kernel
theorem dL_law_634 : decode cL_law 634 = .ok (.iadd, 1) := by decide +kernel
theorem dL_law_635 : decode cL_law 635 = .ok (.iaload, 1) := by decide +kernel
theorem dL_law_636 : decode cL_law 636 = .ok (.aload_n 0, 1) := by decide +kernel
theorem dL_law_637 : decode cL_law 637 = .ok (.iload 4, 2) := by decide +kernel
theorem dL_law_639 : decode cL_law 639 = .ok (.iconst 2, 1) := by decide +kernel
theorem dL_law_640 : decode cL_law 640 = .ok (.iadd, 1) := by decide +kernel
theorem dL_law_641 : decode cL_law 641 = .ok (.iaload, 1) := by decide +kernel
theorem dL_law_642 : decode cL_law 642 = .ok (.invokevirtual 79, 3) := by decide +kernel
theorem dL_law_645 : decode cL_law 645 = .ok (.aload_n 2, 1) := by decide +kernel
theorem dL_law_646 : decode cL_law 646 = .ok (.aload_n 0, 1) := by decide +kernel
theorem dL_law_647 : decode cL_law 647 = .ok (.iload 4, 2) := by decide +kernel
theorem dL_law_649 : decode cL_law 649 = .ok (.iconst 1, 1) := by decide +kernel
theorem dL_law_650 : decode cL_law 650 = .ok (.iadd, 1) := by decide +kernel
theorem dL_law_651 : decode cL_law 651 = .ok (.iaload, 1) := by decide +kernel
theorem dL_law_652 : decode cL_law 652 = .ok (.aload_n 0, 1) := by decide +kernel
theorem dL_law_653 : decode cL_law 653 = .ok (.iload 4, 2) := by decide +kernel
theorem dL_law_655 : decode cL_law 655 = .ok (.iconst 2, 1) := by decide +kernel
theorem dL_law_656 : decode cL_law 656 = .ok (.iadd, 1) := by decide +kernel
theorem dL_law_657 : decode cL_law 657 = .ok (.iaload, 1) := by decide +kernel
theorem dL_law_658 : decode cL_law 658 = .ok (.invokevirtual 82, 3) := by decide +kernel
theorem dL_law_661 : decode cL_law 661 = .ok (.if_icmp .eq 1084, 3) := by decide +kernel
theorem dL_law_666 : decode cL_law 666 = .ok (.aload_n 1, 1) := by decide +kernel
theorem dL_law_667 : decode cL_law 667 = .ok (.aload_n 0, 1) := by decide +kernel
theorem dL_law_668 : decode cL_law 668 = .ok (.iload 4, 2) := by decide +kernel
theorem dL_law_670 : decode cL_law 670 = .ok (.iconst 1, 1) := by decide +kernel
theorem dL_law_671 : decode cL_law 671 = .ok (.iadd, 1) := by decide +kernel
theorem dL_law_672 : decode cL_law 672 = .ok (.iaload, 1) := by decide +kernel
theorem dL_law_673 : decode cL_law 673 = .ok (.invokevirtual 83, 3) := by decide +kernel
theorem dL_law_676 : decode cL_law 676 = .ok (.aload_n 2, 1) := by decide +kernel
theorem dL_law_677 : decode cL_law 677 = .ok (.aload_n 0, 1) := by decide +kernel
theorem dL_law_678 : decode cL_law 678 = .ok (.iload 4, 2) := by decide +kernel
theorem dL_law_680 : decode cL_law 680 = .ok (.iconst 1, 1) := by decide +kernel
theorem dL_law_681 : decode cL_law 681 = .ok (.iadd, 1) := by decide +kernel
theorem dL_law_682 : decode cL_law 682 = .ok (.iaload, 1) := by decide +kernel
theorem dL_law_683 : decode cL_law 683 = .ok (.invokevirtual 86, 3) := by decide +kernel
theorem dL_law_686 : decode cL_law 686 = .ok (.if_icmp .eq 1059, 3) := by decide +kernel
theorem dL_law_691 : decode cL_law 691 = .ok (.aload_n 1, 1) := by decide +kernel
theorem dL_law_692 : decode cL_law 692 = .ok (.invokevirtual 87, 3) := by decide +kernel
theorem dL_law_695 : decode cL_law 695 = .ok (.aload_n 2, 1) := by decide +kernel
theorem dL_law_696 : decode cL_law 696 = .ok (.invokevirtual 90, 3) := by decide +kernel
theorem dL_law_699 : decode cL_law 699 = .ok (.if_icmp .eq 1046, 3) := by decide +kernel
theorem dL_law_704 : decode cL_law 704 = .ok (.aload_n 1, 1) := by decide +kernel
theorem dL_law_705 : decode cL_law 705 = .ok (.invokevirtual 91, 3) := by decide +kernel
theorem dL_law_708 : decode cL_law 708 = .ok (.aload_n 2, 1) := by decide +kernel
theorem dL_law_709 : decode cL_law 709 = .ok (.invokevirtual 94, 3) := by decide +kernel
theorem dL_law_712 : decode cL_law 712 = .ok (.if_icmp .eq 1033, 3) := by decide +kernel
theorem dL_law_717 : decode cL_law 717 = .ok (.aload_n 1, 1) := by decide +kernel
theorem dL_law_718 : decode cL_law 718 = .ok (.aload_n 0, 1) := by decide +kernel
theorem dL_law_719 : decode cL_law 719 = .ok (.iload 4, 2) := by decide +kernel
theorem dL_law_721 : decode cL_law 721 = .ok (.iconst 1, 1) := by decide +kernel
theorem dL_law_722 : decode cL_law 722 = .ok (.iadd, 1) := by decide +kernel
theorem dL_law_723 : decode cL_law 723 = .ok (.iaload, 1) := by decide +kernel
theorem dL_law_724 : decode cL_law 724 = .ok (.aload_n 0, 1) := by decide +kernel
theorem dL_law_725 : decode cL_law 725 = .ok (.iload 4, 2) := by decide +kernel
theorem dL_law_727 : decode cL_law 727 = .ok (.iconst 2, 1) := by decide +kernel
theorem dL_law_728 : decode cL_law 728 = .ok (.iadd, 1) := by decide +kernel
theorem dL_law_729 : decode cL_law 729 = .ok (.iaload, 1) := by decide +kernel
theorem dL_law_730 : decode cL_law 730 = .ok (.invokevirtual 95, 3) := by decide +kernel
theorem dL_law_733 : decode cL_law 733 = .ok (.aload_n 2, 1) := by decide +kernel
theorem dL_law_734 : decode cL_law 734 = .ok (.aload_n 0, 1) := by decide +kernel
theorem dL_law_735 : decode cL_law 735 = .ok (.iload 4, 2) := by decide +kernel
theorem dL_law_737 : decode cL_law 737 = .ok (.iconst 1, 1) := by decide +kernel
theorem dL_law_738 : decode cL_law 738 = .ok (.iadd, 1) := by decide +kernel
theorem dL_law_739 : decode cL_law 739 = .ok (.iaload, 1) := by decide +kernel
theorem dL_law_740 : decode cL_law 740 = .ok (.aload_n 0, 1) := by decide +kernel
theorem dL_law_741 : decode cL_law 741 = .ok (.iload 4, 2) := by decide +kernel
theorem dL_law_743 : decode cL_law 743 = .ok (.iconst 2, 1) := by decide +kernel
theorem dL_law_744 : decode cL_law 744 = .ok (.iadd, 1) := by decide +kernel
theorem dL_law_745 : decode cL_law 745 = .ok (.iaload, 1) := by decide +kernel
theorem dL_law_746 : decode cL_law 746 = .ok (.invokevirtual 98, 3) := by decide +kernel
theorem dL_law_749 : decode cL_law 749 = .ok (.if_icmp .eq 996, 3) := by decide +kernel
