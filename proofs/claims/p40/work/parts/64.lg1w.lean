theorem mw_794 : (Cond.methodLink RL 72 yX11_put) ∈ gx_G := gx_mem 794 (by decide +kernel) (by decide +kernel)
theorem mw_795 : (Cond.instanceMethod yX11_put) ∈ gx_G := gx_mem 795 (by decide +kernel) (by decide +kernel)
theorem mw_796 : (Cond.selects RX11 yX11_put yX11_put) ∈ gx_G := gx_mem 796 (by decide +kernel) (by decide +kernel)
theorem mw_797 : (Cond.code yX11_put cX11_put 5 (some .int)) ∈ gx_G := gx_mem 797 (by decide +kernel) (by decide +kernel)
theorem mw_820 : (Cond.methodLink RL 76 yX11_give) ∈ gx_G := gx_mem 820 (by decide +kernel) (by decide +kernel)
theorem mw_821 : (Cond.instanceMethod yX11_give) ∈ gx_G := gx_mem 821 (by decide +kernel) (by decide +kernel)
theorem mw_822 : (Cond.selects RX11 yX11_give yX11_give) ∈ gx_G := gx_mem 822 (by decide +kernel) (by decide +kernel)
theorem mw_823 : (Cond.code yX11_give cX11_give 3 (some .int)) ∈ gx_G := gx_mem 823 (by decide +kernel) (by decide +kernel)
theorem mw_833 : (Cond.methodLink RL 80 yX11_run) ∈ gx_G := gx_mem 833 (by decide +kernel) (by decide +kernel)
theorem mw_834 : (Cond.instanceMethod yX11_run) ∈ gx_G := gx_mem 834 (by decide +kernel) (by decide +kernel)
theorem mw_835 : (Cond.selects RX11 yX11_run yX11_run) ∈ gx_G := gx_mem 835 (by decide +kernel) (by decide +kernel)
theorem mw_836 : (Cond.code yX11_run cX11_run 5 (some .int)) ∈ gx_G := gx_mem 836 (by decide +kernel) (by decide +kernel)
theorem mw_934 : (Cond.methodLink RL 84 yX11_day) ∈ gx_G := gx_mem 934 (by decide +kernel) (by decide +kernel)
theorem mw_935 : (Cond.instanceMethod yX11_day) ∈ gx_G := gx_mem 935 (by decide +kernel) (by decide +kernel)
theorem mw_936 : (Cond.selects RX11 yX11_day yX11_day) ∈ gx_G := gx_mem 936 (by decide +kernel) (by decide +kernel)
theorem mw_937 : (Cond.code yX11_day cX11_day 7 (some .int)) ∈ gx_G := gx_mem 937 (by decide +kernel) (by decide +kernel)
theorem mw_1004 : (Cond.methodLink RL 88 yX11_undo) ∈ gx_G := gx_mem 1004 (by decide +kernel) (by decide +kernel)
theorem mw_1005 : (Cond.instanceMethod yX11_undo) ∈ gx_G := gx_mem 1005 (by decide +kernel) (by decide +kernel)
theorem mw_1006 : (Cond.selects RX11 yX11_undo yX11_undo) ∈ gx_G := gx_mem 1006 (by decide +kernel) (by decide +kernel)
theorem mw_1007 : (Cond.code yX11_undo cX11_undo 1 (some .int)) ∈ gx_G := gx_mem 1007 (by decide +kernel) (by decide +kernel)
theorem mw_1012 : (Cond.methodLink RL 92 yX11_where) ∈ gx_G := gx_mem 1012 (by decide +kernel) (by decide +kernel)
theorem mw_1013 : (Cond.instanceMethod yX11_where) ∈ gx_G := gx_mem 1013 (by decide +kernel) (by decide +kernel)
theorem mw_1014 : (Cond.selects RX11 yX11_where yX11_where) ∈ gx_G := gx_mem 1014 (by decide +kernel) (by decide +kernel)
theorem mw_1015 : (Cond.code yX11_where cX11_where 4 (some .int)) ∈ gx_G := gx_mem 1015 (by decide +kernel) (by decide +kernel)
theorem mw_1044 : (Cond.methodLink RL 96 yX11_comes) ∈ gx_G := gx_mem 1044 (by decide +kernel) (by decide +kernel)
theorem mw_1045 : (Cond.instanceMethod yX11_comes) ∈ gx_G := gx_mem 1045 (by decide +kernel) (by decide +kernel)
theorem mw_1046 : (Cond.selects RX11 yX11_comes yX11_comes) ∈ gx_G := gx_mem 1046 (by decide +kernel) (by decide +kernel)
theorem mw_1047 : (Cond.code yX11_comes cX11_comes 5 (some .int)) ∈ gx_G := gx_mem 1047 (by decide +kernel) (by decide +kernel)
theorem mw_1061 : (Cond.methodLink RL 100 yX11_lost) ∈ gx_G := gx_mem 1061 (by decide +kernel) (by decide +kernel)
theorem mw_1062 : (Cond.instanceMethod yX11_lost) ∈ gx_G := gx_mem 1062 (by decide +kernel) (by decide +kernel)
theorem mw_1063 : (Cond.selects RX11 yX11_lost yX11_lost) ∈ gx_G := gx_mem 1063 (by decide +kernel) (by decide +kernel)
theorem mw_1064 : (Cond.code yX11_lost cX11_lost 6 (some .int)) ∈ gx_G := gx_mem 1064 (by decide +kernel) (by decide +kernel)
theorem mw_1069 : (Cond.methodLink RL 104 yX11_homes) ∈ gx_G := gx_mem 1069 (by decide +kernel) (by decide +kernel)
theorem mw_1070 : (Cond.instanceMethod yX11_homes) ∈ gx_G := gx_mem 1070 (by decide +kernel) (by decide +kernel)
theorem mw_1071 : (Cond.selects RX11 yX11_homes yX11_homes) ∈ gx_G := gx_mem 1071 (by decide +kernel) (by decide +kernel)
theorem mw_1072 : (Cond.code yX11_homes cX11_homes 2 (some .int)) ∈ gx_G := gx_mem 1072 (by decide +kernel) (by decide +kernel)
theorem mw_1073 : (Cond.methodLink RL 108 yX11_sail) ∈ gx_G := gx_mem 1073 (by decide +kernel) (by decide +kernel)
theorem mw_1074 : (Cond.instanceMethod yX11_sail) ∈ gx_G := gx_mem 1074 (by decide +kernel) (by decide +kernel)
theorem mw_1075 : (Cond.selects RX11 yX11_sail yX11_sail) ∈ gx_G := gx_mem 1075 (by decide +kernel) (by decide +kernel)
theorem mw_1076 : (Cond.code yX11_sail cX11_sail 7 (some .int)) ∈ gx_G := gx_mem 1076 (by decide +kernel) (by decide +kernel)
theorem mw_1816 : (Cond.methodLink RL 91 yX12_undo) ∈ gx_G := gx_mem 1816 (by decide +kernel) (by decide +kernel)
theorem mw_1817 : (Cond.instanceMethod yX12_undo) ∈ gx_G := gx_mem 1817 (by decide +kernel) (by decide +kernel)
theorem mw_1818 : (Cond.selects RX12 yX12_undo yX12_undo) ∈ gx_G := gx_mem 1818 (by decide +kernel) (by decide +kernel)
theorem mw_1819 : (Cond.code yX12_undo cX12_undo 2 (some .int)) ∈ gx_G := gx_mem 1819 (by decide +kernel) (by decide +kernel)
theorem mw_1841 : (Cond.methodLink RL 75 yX12_put) ∈ gx_G := gx_mem 1841 (by decide +kernel) (by decide +kernel)
theorem mw_1842 : (Cond.instanceMethod yX12_put) ∈ gx_G := gx_mem 1842 (by decide +kernel) (by decide +kernel)
theorem mw_1843 : (Cond.selects RX12 yX12_put yX12_put) ∈ gx_G := gx_mem 1843 (by decide +kernel) (by decide +kernel)
theorem mw_1844 : (Cond.code yX12_put cX12_put 6 (some .int)) ∈ gx_G := gx_mem 1844 (by decide +kernel) (by decide +kernel)
theorem mw_1859 : (Cond.methodLink RL 79 yX12_give) ∈ gx_G := gx_mem 1859 (by decide +kernel) (by decide +kernel)
theorem mw_1860 : (Cond.instanceMethod yX12_give) ∈ gx_G := gx_mem 1860 (by decide +kernel) (by decide +kernel)
theorem mw_1861 : (Cond.selects RX12 yX12_give yX12_give) ∈ gx_G := gx_mem 1861 (by decide +kernel) (by decide +kernel)
theorem mw_1862 : (Cond.code yX12_give cX12_give 4 (some .int)) ∈ gx_G := gx_mem 1862 (by decide +kernel) (by decide +kernel)
theorem mw_1867 : (Cond.methodLink RL 83 yX12_run) ∈ gx_G := gx_mem 1867 (by decide +kernel) (by decide +kernel)
theorem mw_1868 : (Cond.instanceMethod yX12_run) ∈ gx_G := gx_mem 1868 (by decide +kernel) (by decide +kernel)
theorem mw_1869 : (Cond.selects RX12 yX12_run yX12_run) ∈ gx_G := gx_mem 1869 (by decide +kernel) (by decide +kernel)
theorem mw_1870 : (Cond.code yX12_run cX12_run 5 (some .int)) ∈ gx_G := gx_mem 1870 (by decide +kernel) (by decide +kernel)
theorem mw_1905 : (Cond.methodLink RL 87 yX12_day) ∈ gx_G := gx_mem 1905 (by decide +kernel) (by decide +kernel)
theorem mw_1906 : (Cond.instanceMethod yX12_day) ∈ gx_G := gx_mem 1906 (by decide +kernel) (by decide +kernel)
theorem mw_1907 : (Cond.selects RX12 yX12_day yX12_day) ∈ gx_G := gx_mem 1907 (by decide +kernel) (by decide +kernel)
theorem mw_1908 : (Cond.code yX12_day cX12_day 6 (some .int)) ∈ gx_G := gx_mem 1908 (by decide +kernel) (by decide +kernel)
theorem mw_1919 : (Cond.methodLink RL 95 yX12_where) ∈ gx_G := gx_mem 1919 (by decide +kernel) (by decide +kernel)
theorem mw_1920 : (Cond.instanceMethod yX12_where) ∈ gx_G := gx_mem 1920 (by decide +kernel) (by decide +kernel)
theorem mw_1921 : (Cond.selects RX12 yX12_where yX12_where) ∈ gx_G := gx_mem 1921 (by decide +kernel) (by decide +kernel)
theorem mw_1922 : (Cond.code yX12_where cX12_where 3 (some .int)) ∈ gx_G := gx_mem 1922 (by decide +kernel) (by decide +kernel)
theorem mw_1931 : (Cond.methodLink RL 99 yX12_comes) ∈ gx_G := gx_mem 1931 (by decide +kernel) (by decide +kernel)
theorem mw_1932 : (Cond.instanceMethod yX12_comes) ∈ gx_G := gx_mem 1932 (by decide +kernel) (by decide +kernel)
theorem mw_1933 : (Cond.selects RX12 yX12_comes yX12_comes) ∈ gx_G := gx_mem 1933 (by decide +kernel) (by decide +kernel)
theorem mw_1934 : (Cond.code yX12_comes cX12_comes 4 (some .int)) ∈ gx_G := gx_mem 1934 (by decide +kernel) (by decide +kernel)
theorem mw_1939 : (Cond.methodLink RL 103 yX12_lost) ∈ gx_G := gx_mem 1939 (by decide +kernel) (by decide +kernel)
theorem mw_1940 : (Cond.instanceMethod yX12_lost) ∈ gx_G := gx_mem 1940 (by decide +kernel) (by decide +kernel)
theorem mw_1941 : (Cond.selects RX12 yX12_lost yX12_lost) ∈ gx_G := gx_mem 1941 (by decide +kernel) (by decide +kernel)
theorem mw_1942 : (Cond.code yX12_lost cX12_lost 6 (some .int)) ∈ gx_G := gx_mem 1942 (by decide +kernel) (by decide +kernel)
theorem mw_1947 : (Cond.methodLink RL 107 yX12_homes) ∈ gx_G := gx_mem 1947 (by decide +kernel) (by decide +kernel)
theorem mw_1948 : (Cond.instanceMethod yX12_homes) ∈ gx_G := gx_mem 1948 (by decide +kernel) (by decide +kernel)
theorem mw_1949 : (Cond.selects RX12 yX12_homes yX12_homes) ∈ gx_G := gx_mem 1949 (by decide +kernel) (by decide +kernel)
theorem mw_1950 : (Cond.code yX12_homes cX12_homes 2 (some .int)) ∈ gx_G := gx_mem 1950 (by decide +kernel) (by decide +kernel)
theorem mw_1951 : (Cond.methodLink RL 112 yX12_sail) ∈ gx_G := gx_mem 1951 (by decide +kernel) (by decide +kernel)
theorem mw_1952 : (Cond.instanceMethod yX12_sail) ∈ gx_G := gx_mem 1952 (by decide +kernel) (by decide +kernel)
theorem mw_1953 : (Cond.selects RX12 yX12_sail yX12_sail) ∈ gx_G := gx_mem 1953 (by decide +kernel) (by decide +kernel)
theorem mw_1954 : (Cond.code yX12_sail cX12_sail 6 (some .int)) ∈ gx_G := gx_mem 1954 (by decide +kernel) (by decide +kernel)
theorem cw_L_72 : gx_Wv RL 72 yX11_put cX11_put 5 (some .int) 4 := ⟨⟨mw_794, mw_795, mw_796, mw_89, mw_797⟩, by decide +kernel⟩
theorem cw_L_75 : gx_Wv RL 75 yX12_put cX12_put 6 (some .int) 4 := ⟨⟨mw_1841, mw_1842, mw_1843, mw_101, mw_1844⟩, by decide +kernel⟩
theorem cw_L_76 : gx_Wv RL 76 yX11_give cX11_give 3 (some .int) 2 := ⟨⟨mw_820, mw_821, mw_822, mw_89, mw_823⟩, by decide +kernel⟩
theorem cw_L_79 : gx_Wv RL 79 yX12_give cX12_give 4 (some .int) 2 := ⟨⟨mw_1859, mw_1860, mw_1861, mw_101, mw_1862⟩, by decide +kernel⟩
theorem cw_L_80 : gx_Wv RL 80 yX11_run cX11_run 5 (some .int) 1 := ⟨⟨mw_833, mw_834, mw_835, mw_89, mw_836⟩, by decide +kernel⟩
theorem cw_L_83 : gx_Wv RL 83 yX12_run cX12_run 5 (some .int) 1 := ⟨⟨mw_1867, mw_1868, mw_1869, mw_101, mw_1870⟩, by decide +kernel⟩
theorem cw_L_84 : gx_Wv RL 84 yX11_day cX11_day 7 (some .int) 0 := ⟨⟨mw_934, mw_935, mw_936, mw_89, mw_937⟩, by decide +kernel⟩
theorem cw_L_87 : gx_Wv RL 87 yX12_day cX12_day 6 (some .int) 0 := ⟨⟨mw_1905, mw_1906, mw_1907, mw_101, mw_1908⟩, by decide +kernel⟩
theorem cw_L_88 : gx_Wv RL 88 yX11_undo cX11_undo 1 (some .int) 0 := ⟨⟨mw_1004, mw_1005, mw_1006, mw_89, mw_1007⟩, by decide +kernel⟩
theorem cw_L_91 : gx_Wv RL 91 yX12_undo cX12_undo 2 (some .int) 0 := ⟨⟨mw_1816, mw_1817, mw_1818, mw_101, mw_1819⟩, by decide +kernel⟩
theorem cw_L_92 : gx_Wv RL 92 yX11_where cX11_where 4 (some .int) 2 := ⟨⟨mw_1012, mw_1013, mw_1014, mw_89, mw_1015⟩, by decide +kernel⟩
theorem cw_L_95 : gx_Wv RL 95 yX12_where cX12_where 3 (some .int) 2 := ⟨⟨mw_1919, mw_1920, mw_1921, mw_101, mw_1922⟩, by decide +kernel⟩
theorem cw_L_96 : gx_Wv RL 96 yX11_comes cX11_comes 5 (some .int) 1 := ⟨⟨mw_1044, mw_1045, mw_1046, mw_89, mw_1047⟩, by decide +kernel⟩
theorem cw_L_99 : gx_Wv RL 99 yX12_comes cX12_comes 4 (some .int) 1 := ⟨⟨mw_1931, mw_1932, mw_1933, mw_101, mw_1934⟩, by decide +kernel⟩
theorem cw_L_100 : gx_Wv RL 100 yX11_lost cX11_lost 6 (some .int) 1 := ⟨⟨mw_1061, mw_1062, mw_1063, mw_89, mw_1064⟩, by decide +kernel⟩
theorem cw_L_103 : gx_Wv RL 103 yX12_lost cX12_lost 6 (some .int) 1 := ⟨⟨mw_1939, mw_1940, mw_1941, mw_101, mw_1942⟩, by decide +kernel⟩
theorem cw_L_104 : gx_Wv RL 104 yX11_homes cX11_homes 2 (some .int) 1 := ⟨⟨mw_1069, mw_1070, mw_1071, mw_89, mw_1072⟩, by decide +kernel⟩
theorem cw_L_107 : gx_Wv RL 107 yX12_homes cX12_homes 2 (some .int) 1 := ⟨⟨mw_1947, mw_1948, mw_1949, mw_101, mw_1950⟩, by decide +kernel⟩
theorem cw_L_108 : gx_Wv RL 108 yX11_sail cX11_sail 7 (some .int) 5 := ⟨⟨mw_1073, mw_1074, mw_1075, mw_89, mw_1076⟩, by decide +kernel⟩
theorem cw_L_112 : gx_Wv RL 112 yX12_sail cX12_sail 6 (some .int) 5 := ⟨⟨mw_1951, mw_1952, mw_1953, mw_101, mw_1954⟩, by decide +kernel⟩
theorem dL_law_512 : decode cL_law 512 = .ok (.aload_n 1, 1) := by decide +kernel
theorem dL_law_513 : decode cL_law 513 = .ok (.aload_n 0, 1) := by decide +kernel
theorem dL_law_514 : decode cL_law 514 = .ok (.iload 4, 2) := by decide +kernel
theorem dL_law_516 : decode cL_law 516 = .ok (.iconst 1, 1) := by decide +kernel
theorem dL_law_517 : decode cL_law 517 = .ok (.iadd, 1) := by decide +kernel
theorem dL_law_518 : decode cL_law 518 = .ok (.iaload, 1) := by decide +kernel
theorem dL_law_519 : decode cL_law 519 = .ok (.aload_n 0, 1) := by decide +kernel
theorem dL_law_520 : decode cL_law 520 = .ok (.iload 4, 2) := by decide +kernel
theorem dL_law_522 : decode cL_law 522 = .ok (.iconst 2, 1) := by decide +kernel
theorem dL_law_523 : decode cL_law 523 = .ok (.iadd, 1) := by decide +kernel
theorem dL_law_524 : decode cL_law 524 = .ok (.iaload, 1) := by decide +kernel
theorem dL_law_525 : decode cL_law 525 = .ok (.aload_n 0, 1) := by decide +kernel
theorem dL_law_526 : decode cL_law 526 = .ok (.iload 4, 2) := by decide +kernel
theorem dL_law_528 : decode cL_law 528 = .ok (.iconst 3, 1) := by decide +kernel
theorem dL_law_529 : decode cL_law 529 = .ok (.iadd, 1) := by decide +kernel
theorem dL_law_530 : decode cL_law 530 = .ok (.iaload, 1) := by decide +kernel
theorem dL_law_531 : decode cL_law 531 = .ok (.aload_n 0, 1) := by decide +kernel
theorem dL_law_532 : decode cL_law 532 = .ok (.iload 4, 2) := by decide +kernel
theorem dL_law_534 : decode cL_law 534 = .ok (.iconst 4, 1) := by decide +kernel
theorem dL_law_535 : decode cL_law 535 = .ok (.iadd, 1) := by decide +kernel
theorem dL_law_536 : decode cL_law 536 = .ok (.iaload, 1) := by decide +kernel
theorem dL_law_537 : decode cL_law 537 = .ok (.invokevirtual 72, 3) := by decide +kernel
theorem dL_law_540 : decode cL_law 540 = .ok (.pop, 1) := by decide +kernel
theorem dL_law_541 : decode cL_law 541 = .ok (.aload_n 2, 1) := by decide +kernel
theorem dL_law_542 : decode cL_law 542 = .ok (.aload_n 0, 1) := by decide +kernel
theorem dL_law_543 : decode cL_law 543 = .ok (.iload 4, 2) := by decide +kernel
theorem dL_law_545 : decode cL_law 545 = .ok (.iconst 1, 1) := by decide +kernel
theorem dL_law_546 : decode cL_law 546 = .ok (.iadd, 1) := by decide +kernel
theorem dL_law_547 : decode cL_law 547 = .ok (.iaload, 1) := by decide +kernel
theorem dL_law_548 : decode cL_law 548 = .ok (.aload_n 0, 1) := by decide +kernel
theorem dL_law_549 : decode cL_law 549 = .ok (.iload 4, 2) := by decide +kernel
theorem dL_law_551 : decode cL_law 551 = .ok (.iconst 2, 1) := by decide +kernel
theorem dL_law_552 : decode cL_law 552 = .ok (.iadd, 1) := by decide +kernel
theorem dL_law_553 : decode cL_law 553 = .ok (.iaload, 1) := by decide +kernel
theorem dL_law_554 : decode cL_law 554 = .ok (.aload_n 0, 1) := by decide +kernel
theorem dL_law_555 : decode cL_law 555 = .ok (.iload 4, 2) := by decide +kernel
theorem dL_law_557 : decode cL_law 557 = .ok (.iconst 3, 1) := by decide +kernel
theorem dL_law_558 : decode cL_law 558 = .ok (.iadd, 1) := by decide +kernel
theorem dL_law_559 : decode cL_law 559 = .ok (.iaload, 1) := by decide +kernel
theorem dL_law_560 : decode cL_law 560 = .ok (.aload_n 0, 1) := by decide +kernel
theorem dL_law_561 : decode cL_law 561 = .ok (.iload 4, 2) := by decide +kernel
theorem dL_law_563 : decode cL_law 563 = .ok (.iconst 4, 1) := by decide +kernel
theorem dL_law_564 : decode cL_law 564 = .ok (.iadd, 1) := by decide +kernel
theorem dL_law_565 : decode cL_law 565 = .ok (.iaload, 1) := by decide +kernel
theorem dL_law_566 : decode cL_law 566 = .ok (.invokevirtual 75, 3) := by decide +kernel
theorem dL_law_569 : decode cL_law 569 = .ok (.pop, 1) := by decide +kernel
theorem dL_law_570 : decode cL_law 570 = .ok (.goto 1092, 3) := by decide +kernel
theorem dL_law_573 : decode cL_law 573 = .ok (.aload_n 1, 1) := by decide +kernel
theorem dL_law_574 : decode cL_law 574 = .ok (.aload_n 0, 1) := by decide +kernel
theorem dL_law_575 : decode cL_law 575 = .ok (.iload 4, 2) := by decide +kernel
theorem dL_law_577 : decode cL_law 577 = .ok (.iconst 1, 1) := by decide +kernel
theorem dL_law_578 : decode cL_law 578 = .ok (.iadd, 1) := by decide +kernel
theorem dL_law_579 : decode cL_law 579 = .ok (.iaload, 1) := by decide +kernel
theorem dL_law_580 : decode cL_law 580 = .ok (.aload_n 0, 1) := by decide +kernel
theorem dL_law_581 : decode cL_law 581 = .ok (.iload 4, 2) := by decide +kernel
theorem dL_law_583 : decode cL_law 583 = .ok (.iconst 2, 1) := by decide +kernel
theorem dL_law_584 : decode cL_law 584 = .ok (.iadd, 1) := by decide +kernel
theorem dL_law_585 : decode cL_law 585 = .ok (.iaload, 1) := by decide +kernel
theorem dL_law_586 : decode cL_law 586 = .ok (.invokevirtual 76, 3) := by decide +kernel
theorem dL_law_589 : decode cL_law 589 = .ok (.pop, 1) := by decide +kernel
theorem dL_law_590 : decode cL_law 590 = .ok (.aload_n 2, 1) := by decide +kernel
theorem dL_law_591 : decode cL_law 591 = .ok (.aload_n 0, 1) := by decide +kernel
theorem dL_law_592 : decode cL_law 592 = .ok (.iload 4, 2) := by decide +kernel
theorem dL_law_594 : decode cL_law 594 = .ok (.iconst 1, 1) := by decide +kernel
theorem dL_law_595 : decode cL_law 595 = .ok (.iadd, 1) := by decide +kernel
theorem dL_law_596 : decode cL_law 596 = .ok (.iaload, 1) := by decide +kernel
theorem dL_law_597 : decode cL_law 597 = .ok (.aload_n 0, 1) := by decide +kernel
theorem dL_law_598 : decode cL_law 598 = .ok (.iload 4, 2) := by decide +kernel
theorem dL_law_600 : decode cL_law 600 = .ok (.iconst 2, 1) := by decide +kernel
theorem dL_law_601 : decode cL_law 601 = .ok (.iadd, 1) := by decide +kernel
theorem dL_law_602 : decode cL_law 602 = .ok (.iaload, 1) := by decide +kernel
theorem dL_law_603 : decode cL_law 603 = .ok (.invokevirtual 79, 3) := by decide +kernel
theorem dL_law_606 : decode cL_law 606 = .ok (.pop, 1) := by decide +kernel
theorem dL_law_607 : decode cL_law 607 = .ok (.goto 1055, 3) := by decide +kernel
theorem dL_law_610 : decode cL_law 610 = .ok (.aload_n 1, 1) := by decide +kernel
theorem dL_law_611 : decode cL_law 611 = .ok (.aload_n 0, 1) := by decide +kernel
theorem dL_law_612 : decode cL_law 612 = .ok (.iload 4, 2) := by decide +kernel
theorem dL_law_614 : decode cL_law 614 = .ok (.iconst 1, 1) := by decide +kernel
theorem dL_law_615 : decode cL_law 615 = .ok (.iadd, 1) := by decide +kernel
theorem dL_law_616 : decode cL_law 616 = .ok (.iaload, 1) := by decide +kernel
theorem dL_law_617 : decode cL_law 617 = .ok (.invokevirtual 80, 3) := by decide +kernel
theorem dL_law_620 : decode cL_law 620 = .ok (.pop, 1) := by decide +kernel
theorem dL_law_621 : decode cL_law 621 = .ok (.aload_n 2, 1) := by decide +kernel
theorem dL_law_622 : decode cL_law 622 = .ok (.aload_n 0, 1) := by decide +kernel
theorem dL_law_623 : decode cL_law 623 = .ok (.iload 4, 2) := by decide +kernel
theorem dL_law_625 : decode cL_law 625 = .ok (.iconst 1, 1) := by decide +kernel
theorem dL_law_626 : decode cL_law 626 = .ok (.iadd, 1) := by decide +kernel
theorem dL_law_627 : decode cL_law 627 = .ok (.iaload, 1) := by decide +kernel
theorem dL_law_628 : decode cL_law 628 = .ok (.invokevirtual 83, 3) := by decide +kernel
theorem dL_law_631 : decode cL_law 631 = .ok (.pop, 1) := by decide +kernel
theorem dL_law_632 : decode cL_law 632 = .ok (.goto 1030, 3) := by decide +kernel
theorem dL_law_635 : decode cL_law 635 = .ok (.aload_n 1, 1) := by decide +kernel
theorem dL_law_636 : decode cL_law 636 = .ok (.invokevirtual 84, 3) := by decide +kernel
theorem dL_law_639 : decode cL_law 639 = .ok (.pop, 1) := by decide +kernel
theorem dL_law_640 : decode cL_law 640 = .ok (.aload_n 2, 1) := by decide +kernel
theorem dL_law_641 : decode cL_law 641 = .ok (.invokevirtual 87, 3) := by decide +kernel
theorem dL_law_644 : decode cL_law 644 = .ok (.pop, 1) := by decide +kernel
theorem dL_law_645 : decode cL_law 645 = .ok (.goto 1017, 3) := by decide +kernel
theorem dL_law_648 : decode cL_law 648 = .ok (.aload_n 1, 1) := by decide +kernel
theorem dL_law_649 : decode cL_law 649 = .ok (.invokevirtual 88, 3) := by decide +kernel
theorem dL_law_652 : decode cL_law 652 = .ok (.pop, 1) := by decide +kernel
theorem dL_law_653 : decode cL_law 653 = .ok (.aload_n 2, 1) := by decide +kernel
theorem dL_law_654 : decode cL_law 654 = .ok (.invokevirtual 91, 3) := by decide +kernel
theorem dL_law_657 : decode cL_law 657 = .ok (.pop, 1) := by decide +kernel
theorem dL_law_658 : decode cL_law 658 = .ok (.goto 1004, 3) := by decide +kernel
theorem dL_law_661 : decode cL_law 661 = .ok (.aload_n 1, 1) := by decide +kernel
theorem dL_law_662 : decode cL_law 662 = .ok (.aload_n 0, 1) := by decide +kernel
theorem dL_law_663 : decode cL_law 663 = .ok (.iload 4, 2) := by decide +kernel
theorem dL_law_665 : decode cL_law 665 = .ok (.iconst 1, 1) := by decide +kernel
theorem dL_law_666 : decode cL_law 666 = .ok (.iadd, 1) := by decide +kernel
theorem dL_law_667 : decode cL_law 667 = .ok (.iaload, 1) := by decide +kernel
theorem dL_law_668 : decode cL_law 668 = .ok (.aload_n 0, 1) := by decide +kernel
theorem dL_law_669 : decode cL_law 669 = .ok (.iload 4, 2) := by decide +kernel
theorem dL_law_671 : decode cL_law 671 = .ok (.iconst 2, 1) := by decide +kernel
theorem dL_law_672 : decode cL_law 672 = .ok (.iadd, 1) := by decide +kernel
theorem dL_law_673 : decode cL_law 673 = .ok (.iaload, 1) := by decide +kernel
theorem dL_law_674 : decode cL_law 674 = .ok (.invokevirtual 92, 3) := by decide +kernel
theorem dL_law_677 : decode cL_law 677 = .ok (.pop, 1) := by decide +kernel
theorem dL_law_678 : decode cL_law 678 = .ok (.aload_n 2, 1) := by decide +kernel
theorem dL_law_679 : decode cL_law 679 = .ok (.aload_n 0, 1) := by decide +kernel
theorem dL_law_680 : decode cL_law 680 = .ok (.iload 4, 2) := by decide +kernel
theorem dL_law_682 : decode cL_law 682 = .ok (.iconst 1, 1) := by decide +kernel
theorem dL_law_683 : decode cL_law 683 = .ok (.iadd, 1) := by decide +kernel
theorem dL_law_684 : decode cL_law 684 = .ok (.iaload, 1) := by decide +kernel
theorem dL_law_685 : decode cL_law 685 = .ok (.aload_n 0, 1) := by decide +kernel
theorem dL_law_686 : decode cL_law 686 = .ok (.iload 4, 2) := by decide +kernel
theorem dL_law_688 : decode cL_law 688 = .ok (.iconst 2, 1) := by decide +kernel
theorem dL_law_689 : decode cL_law 689 = .ok (.iadd, 1) := by decide +kernel
theorem dL_law_690 : decode cL_law 690 = .ok (.iaload, 1) := by decide +kernel
theorem dL_law_691 : decode cL_law 691 = .ok (.invokevirtual 95, 3) := by decide +kernel
theorem dL_law_694 : decode cL_law 694 = .ok (.pop, 1) := by decide +kernel
theorem dL_law_695 : decode cL_law 695 = .ok (.goto 967, 3) := by decide +kernel
theorem dL_law_698 : decode cL_law 698 = .ok (.aload_n 1, 1) := by decide +kernel
theorem dL_law_699 : decode cL_law 699 = .ok (.aload_n 0, 1) := by decide +kernel
theorem dL_law_700 : decode cL_law 700 = .ok (.iload 4, 2) := by decide +kernel
theorem dL_law_702 : decode cL_law 702 = .ok (.iconst 1, 1) := by decide +kernel
theorem dL_law_703 : decode cL_law 703 = .ok (.iadd, 1) := by decide +kernel
theorem dL_law_704 : decode cL_law 704 = .ok (.iaload, 1) := by decide +kernel
theorem dL_law_705 : decode cL_law 705 = .ok (.invokevirtual 96, 3) := by decide +kernel
theorem dL_law_708 : decode cL_law 708 = .ok (.pop, 1) := by decide +kernel
theorem dL_law_709 : decode cL_law 709 = .ok (.aload_n 2, 1) := by decide +kernel
theorem dL_law_710 : decode cL_law 710 = .ok (.aload_n 0, 1) := by decide +kernel
theorem dL_law_711 : decode cL_law 711 = .ok (.iload 4, 2) := by decide +kernel
theorem dL_law_713 : decode cL_law 713 = .ok (.iconst 1, 1) := by decide +kernel
theorem dL_law_714 : decode cL_law 714 = .ok (.iadd, 1) := by decide +kernel
theorem dL_law_715 : decode cL_law 715 = .ok (.iaload, 1) := by decide +kernel
theorem dL_law_716 : decode cL_law 716 = .ok (.invokevirtual 99, 3) := by decide +kernel
theorem dL_law_719 : decode cL_law 719 = .ok (.pop, 1) := by decide +kernel
theorem dL_law_720 : decode cL_law 720 = .ok (.goto 942, 3) := by decide +kernel
theorem dL_law_723 : decode cL_law 723 = .ok (.aload_n 1, 1) := by decide +kernel
theorem dL_law_724 : decode cL_law 724 = .ok (.aload_n 0, 1) := by decide +kernel
theorem dL_law_725 : decode cL_law 725 = .ok (.iload 4, 2) := by decide +kernel
theorem dL_law_727 : decode cL_law 727 = .ok (.iconst 1, 1) := by decide +kernel
theorem dL_law_728 : decode cL_law 728 = .ok (.iadd, 1) := by decide +kernel
theorem dL_law_729 : decode cL_law 729 = .ok (.iaload, 1) := by decide +kernel
theorem dL_law_730 : decode cL_law 730 = .ok (.invokevirtual 100, 3) := by decide +kernel
theorem dL_law_733 : decode cL_law 733 = .ok (.pop, 1) := by decide +kernel
theorem dL_law_734 : decode cL_law 734 = .ok (.aload_n 2, 1) := by decide +kernel
theorem dL_law_735 : decode cL_law 735 = .ok (.aload_n 0, 1) := by decide +kernel
theorem dL_law_736 : decode cL_law 736 = .ok (.iload 4, 2) := by decide +kernel
theorem dL_law_738 : decode cL_law 738 = .ok (.iconst 1, 1) := by decide +kernel
theorem dL_law_739 : decode cL_law 739 = .ok (.iadd, 1) := by decide +kernel
theorem dL_law_740 : decode cL_law 740 = .ok (.iaload, 1) := by decide +kernel
theorem dL_law_741 : decode cL_law 741 = .ok (.invokevirtual 103, 3) := by decide +kernel
theorem dL_law_744 : decode cL_law 744 = .ok (.pop, 1) := by decide +kernel
theorem dL_law_745 : decode cL_law 745 = .ok (.goto 917, 3) := by decide +kernel
theorem dL_law_748 : decode cL_law 748 = .ok (.aload_n 1, 1) := by decide +kernel
theorem dL_law_749 : decode cL_law 749 = .ok (.aload_n 0, 1) := by decide +kernel
theorem dL_law_750 : decode cL_law 750 = .ok (.iload 4, 2) := by decide +kernel
theorem dL_law_752 : decode cL_law 752 = .ok (.iconst 1, 1) := by decide +kernel
theorem dL_law_753 : decode cL_law 753 = .ok (.iadd, 1) := by decide +kernel
theorem dL_law_754 : decode cL_law 754 = .ok (.iaload, 1) := by decide +kernel
theorem dL_law_755 : decode cL_law 755 = .ok (.invokevirtual 104, 3) := by decide +kernel
theorem dL_law_758 : decode cL_law 758 = .ok (.pop, 1) := by decide +kernel
theorem dL_law_759 : decode cL_law 759 = .ok (.aload_n 2, 1) := by decide +kernel
theorem dL_law_760 : decode cL_law 760 = .ok (.aload_n 0, 1) := by decide +kernel
theorem dL_law_761 : decode cL_law 761 = .ok (.iload 4, 2) := by decide +kernel
theorem dL_law_763 : decode cL_law 763 = .ok (.iconst 1, 1) := by decide +kernel
theorem dL_law_764 : decode cL_law 764 = .ok (.iadd, 1) := by decide +kernel
theorem dL_law_765 : decode cL_law 765 = .ok (.iaload, 1) := by decide +kernel
theorem dL_law_766 : decode cL_law 766 = .ok (.invokevirtual 107, 3) := by decide +kernel
theorem dL_law_769 : decode cL_law 769 = .ok (.pop, 1) := by decide +kernel
theorem dL_law_770 : decode cL_law 770 = .ok (.goto 892, 3) := by decide +kernel
theorem dL_law_773 : decode cL_law 773 = .ok (.aload_n 1, 1) := by decide +kernel
theorem dL_law_774 : decode cL_law 774 = .ok (.aload_n 0, 1) := by decide +kernel
theorem dL_law_775 : decode cL_law 775 = .ok (.iload 4, 2) := by decide +kernel
theorem dL_law_777 : decode cL_law 777 = .ok (.iconst 1, 1) := by decide +kernel
theorem dL_law_778 : decode cL_law 778 = .ok (.iadd, 1) := by decide +kernel
theorem dL_law_779 : decode cL_law 779 = .ok (.iaload, 1) := by decide +kernel
theorem dL_law_780 : decode cL_law 780 = .ok (.aload_n 0, 1) := by decide +kernel
theorem dL_law_781 : decode cL_law 781 = .ok (.iload 4, 2) := by decide +kernel
theorem dL_law_783 : decode cL_law 783 = .ok (.iconst 2, 1) := by decide +kernel
theorem dL_law_784 : decode cL_law 784 = .ok (.iadd, 1) := by decide +kernel
theorem dL_law_785 : decode cL_law 785 = .ok (.iaload, 1) := by decide +kernel
theorem dL_law_786 : decode cL_law 786 = .ok (.aload_n 0, 1) := by decide +kernel
theorem dL_law_787 : decode cL_law 787 = .ok (.iload 4, 2) := by decide +kernel
theorem dL_law_789 : decode cL_law 789 = .ok (.iconst 3, 1) := by decide +kernel
theorem dL_law_790 : decode cL_law 790 = .ok (.iadd, 1) := by decide +kernel
theorem dL_law_791 : decode cL_law 791 = .ok (.iaload, 1) := by decide +kernel
theorem dL_law_792 : decode cL_law 792 = .ok (.aload_n 0, 1) := by decide +kernel
theorem dL_law_793 : decode cL_law 793 = .ok (.iload 4, 2) := by decide +kernel
theorem dL_law_795 : decode cL_law 795 = .ok (.iconst 4, 1) := by decide +kernel
theorem dL_law_796 : decode cL_law 796 = .ok (.iadd, 1) := by decide +kernel
theorem dL_law_797 : decode cL_law 797 = .ok (.iaload, 1) := by decide +kernel
theorem dL_law_798 : decode cL_law 798 = .ok (.aload_n 0, 1) := by decide +kernel
theorem dL_law_799 : decode cL_law 799 = .ok (.iload 4, 2) := by decide +kernel
theorem dL_law_801 : decode cL_law 801 = .ok (.iconst 5, 1) := by decide +kernel
theorem dL_law_802 : decode cL_law 802 = .ok (.iadd, 1) := by decide +kernel
theorem dL_law_803 : decode cL_law 803 = .ok (.iaload, 1) := by decide +kernel
theorem dL_law_804 : decode cL_law 804 = .ok (.invokevirtual 108, 3) := by decide +kernel
theorem dL_law_807 : decode cL_law 807 = .ok (.pop, 1) := by decide +kernel
theorem dL_law_808 : decode cL_law 808 = .ok (.aload_n 2, 1) := by decide +kernel
theorem dL_law_809 : decode cL_law 809 = .ok (.aload_n 0, 1) := by decide +kernel
theorem dL_law_810 : decode cL_law 810 = .ok (.iload 4, 2) := by decide +kernel
theorem dL_law_812 : decode cL_law 812 = .ok (.iconst 1, 1) := by decide +kernel
theorem dL_law_813 : decode cL_law 813 = .ok (.iadd, 1) := by decide +kernel
theorem dL_law_814 : decode cL_law 814 = .ok (.iaload, 1) := by decide +kernel
theorem dL_law_815 : decode cL_law 815 = .ok (.aload_n 0, 1) := by decide +kernel
theorem dL_law_816 : decode cL_law 816 = .ok (.iload 4, 2) := by decide +kernel
theorem dL_law_818 : decode cL_law 818 = .ok (.iconst 2, 1) := by decide +kernel
theorem dL_law_819 : decode cL_law 819 = .ok (.iadd, 1) := by decide +kernel
theorem dL_law_820 : decode cL_law 820 = .ok (.iaload, 1) := by decide +kernel
theorem dL_law_821 : decode cL_law 821 = .ok (.aload_n 0, 1) := by decide +kernel
theorem dL_law_822 : decode cL_law 822 = .ok (.iload 4, 2) := by decide +kernel
theorem dL_law_824 : decode cL_law 824 = .ok (.iconst 3, 1) := by decide +kernel
theorem dL_law_825 : decode cL_law 825 = .ok (.iadd, 1) := by decide +kernel
theorem dL_law_826 : decode cL_law 826 = .ok (.iaload, 1) := by decide +kernel
theorem dL_law_827 : decode cL_law 827 = .ok (.aload_n 0, 1) := by decide +kernel
theorem dL_law_828 : decode cL_law 828 = .ok (.iload 4, 2) := by decide +kernel
theorem dL_law_830 : decode cL_law 830 = .ok (.iconst 4, 1) := by decide +kernel
theorem dL_law_831 : decode cL_law 831 = .ok (.iadd, 1) := by decide +kernel
theorem dL_law_832 : decode cL_law 832 = .ok (.iaload, 1) := by decide +kernel
theorem dL_law_833 : decode cL_law 833 = .ok (.aload_n 0, 1) := by decide +kernel
theorem dL_law_834 : decode cL_law 834 = .ok (.iload 4, 2) := by decide +kernel
theorem dL_law_836 : decode cL_law 836 = .ok (.iconst 5, 1) := by decide +kernel
theorem dL_law_837 : decode cL_law 837 = .ok (.iadd, 1) := by decide +kernel
theorem dL_law_838 : decode cL_law 838 = .ok (.iaload, 1) := by decide +kernel
theorem dL_law_839 : decode cL_law 839 = .ok (.invokevirtual 112, 3) := by decide +kernel
theorem dL_law_842 : decode cL_law 842 = .ok (.pop, 1) := by decide +kernel
theorem dL_law_843 : decode cL_law 843 = .ok (.goto 819, 3) := by decide +kernel
