theorem mw_1044 : (Cond.methodLink RL 99 yX11_comes) ∈ gx_G := gx_mem 1044 (by decide +kernel) (by decide +kernel)
theorem mw_1045 : (Cond.instanceMethod yX11_comes) ∈ gx_G := gx_mem 1045 (by decide +kernel) (by decide +kernel)
theorem mw_1046 : (Cond.selects RX11 yX11_comes yX11_comes) ∈ gx_G := gx_mem 1046 (by decide +kernel) (by decide +kernel)
theorem mw_1047 : (Cond.code yX11_comes cX11_comes 5 (some .int)) ∈ gx_G := gx_mem 1047 (by decide +kernel) (by decide +kernel)
theorem mw_1061 : (Cond.methodLink RL 103 yX11_lost) ∈ gx_G := gx_mem 1061 (by decide +kernel) (by decide +kernel)
theorem mw_1062 : (Cond.instanceMethod yX11_lost) ∈ gx_G := gx_mem 1062 (by decide +kernel) (by decide +kernel)
theorem mw_1063 : (Cond.selects RX11 yX11_lost yX11_lost) ∈ gx_G := gx_mem 1063 (by decide +kernel) (by decide +kernel)
theorem mw_1064 : (Cond.code yX11_lost cX11_lost 6 (some .int)) ∈ gx_G := gx_mem 1064 (by decide +kernel) (by decide +kernel)
theorem mw_1069 : (Cond.methodLink RL 107 yX11_homes) ∈ gx_G := gx_mem 1069 (by decide +kernel) (by decide +kernel)
theorem mw_1070 : (Cond.instanceMethod yX11_homes) ∈ gx_G := gx_mem 1070 (by decide +kernel) (by decide +kernel)
theorem mw_1071 : (Cond.selects RX11 yX11_homes yX11_homes) ∈ gx_G := gx_mem 1071 (by decide +kernel) (by decide +kernel)
theorem mw_1072 : (Cond.code yX11_homes cX11_homes 2 (some .int)) ∈ gx_G := gx_mem 1072 (by decide +kernel) (by decide +kernel)
theorem mw_1073 : (Cond.methodLink RL 111 yX11_sail) ∈ gx_G := gx_mem 1073 (by decide +kernel) (by decide +kernel)
theorem mw_1074 : (Cond.instanceMethod yX11_sail) ∈ gx_G := gx_mem 1074 (by decide +kernel) (by decide +kernel)
theorem mw_1075 : (Cond.selects RX11 yX11_sail yX11_sail) ∈ gx_G := gx_mem 1075 (by decide +kernel) (by decide +kernel)
theorem mw_1076 : (Cond.code yX11_sail cX11_sail 7 (some .int)) ∈ gx_G := gx_mem 1076 (by decide +kernel) (by decide +kernel)
theorem mw_1104 : (Cond.methodLink RL 116 yX11_soonest) ∈ gx_G := gx_mem 1104 (by decide +kernel) (by decide +kernel)
theorem mw_1105 : (Cond.instanceMethod yX11_soonest) ∈ gx_G := gx_mem 1105 (by decide +kernel) (by decide +kernel)
theorem mw_1106 : (Cond.selects RX11 yX11_soonest yX11_soonest) ∈ gx_G := gx_mem 1106 (by decide +kernel) (by decide +kernel)
theorem mw_1107 : (Cond.code yX11_soonest cX11_soonest 10 (some .int)) ∈ gx_G := gx_mem 1107 (by decide +kernel) (by decide +kernel)
theorem mw_1935 : (Cond.methodLink RL 102 yX12_comes) ∈ gx_G := gx_mem 1935 (by decide +kernel) (by decide +kernel)
theorem mw_1936 : (Cond.instanceMethod yX12_comes) ∈ gx_G := gx_mem 1936 (by decide +kernel) (by decide +kernel)
theorem mw_1937 : (Cond.selects RX12 yX12_comes yX12_comes) ∈ gx_G := gx_mem 1937 (by decide +kernel) (by decide +kernel)
theorem mw_1938 : (Cond.code yX12_comes cX12_comes 4 (some .int)) ∈ gx_G := gx_mem 1938 (by decide +kernel) (by decide +kernel)
theorem mw_1943 : (Cond.methodLink RL 106 yX12_lost) ∈ gx_G := gx_mem 1943 (by decide +kernel) (by decide +kernel)
theorem mw_1944 : (Cond.instanceMethod yX12_lost) ∈ gx_G := gx_mem 1944 (by decide +kernel) (by decide +kernel)
theorem mw_1945 : (Cond.selects RX12 yX12_lost yX12_lost) ∈ gx_G := gx_mem 1945 (by decide +kernel) (by decide +kernel)
theorem mw_1946 : (Cond.code yX12_lost cX12_lost 6 (some .int)) ∈ gx_G := gx_mem 1946 (by decide +kernel) (by decide +kernel)
theorem mw_1951 : (Cond.methodLink RL 110 yX12_homes) ∈ gx_G := gx_mem 1951 (by decide +kernel) (by decide +kernel)
theorem mw_1952 : (Cond.instanceMethod yX12_homes) ∈ gx_G := gx_mem 1952 (by decide +kernel) (by decide +kernel)
theorem mw_1953 : (Cond.selects RX12 yX12_homes yX12_homes) ∈ gx_G := gx_mem 1953 (by decide +kernel) (by decide +kernel)
theorem mw_1954 : (Cond.code yX12_homes cX12_homes 2 (some .int)) ∈ gx_G := gx_mem 1954 (by decide +kernel) (by decide +kernel)
theorem mw_1955 : (Cond.methodLink RL 115 yX12_sail) ∈ gx_G := gx_mem 1955 (by decide +kernel) (by decide +kernel)
theorem mw_1956 : (Cond.instanceMethod yX12_sail) ∈ gx_G := gx_mem 1956 (by decide +kernel) (by decide +kernel)
theorem mw_1957 : (Cond.selects RX12 yX12_sail yX12_sail) ∈ gx_G := gx_mem 1957 (by decide +kernel) (by decide +kernel)
theorem mw_1958 : (Cond.code yX12_sail cX12_sail 6 (some .int)) ∈ gx_G := gx_mem 1958 (by decide +kernel) (by decide +kernel)
theorem mw_1983 : (Cond.methodLink RL 120 yX12_soonest) ∈ gx_G := gx_mem 1983 (by decide +kernel) (by decide +kernel)
theorem mw_1984 : (Cond.instanceMethod yX12_soonest) ∈ gx_G := gx_mem 1984 (by decide +kernel) (by decide +kernel)
theorem mw_1985 : (Cond.selects RX12 yX12_soonest yX12_soonest) ∈ gx_G := gx_mem 1985 (by decide +kernel) (by decide +kernel)
theorem mw_1986 : (Cond.code yX12_soonest cX12_soonest 10 (some .int)) ∈ gx_G := gx_mem 1986 (by decide +kernel) (by decide +kernel)
theorem cw_L_99 : gx_Wv RL 99 yX11_comes cX11_comes 5 (some .int) 1 := ⟨⟨mw_1044, mw_1045, mw_1046, mw_89, mw_1047⟩, by decide +kernel⟩
theorem cw_L_102 : gx_Wv RL 102 yX12_comes cX12_comes 4 (some .int) 1 := ⟨⟨mw_1935, mw_1936, mw_1937, mw_101, mw_1938⟩, by decide +kernel⟩
theorem cw_L_103 : gx_Wv RL 103 yX11_lost cX11_lost 6 (some .int) 1 := ⟨⟨mw_1061, mw_1062, mw_1063, mw_89, mw_1064⟩, by decide +kernel⟩
theorem cw_L_106 : gx_Wv RL 106 yX12_lost cX12_lost 6 (some .int) 1 := ⟨⟨mw_1943, mw_1944, mw_1945, mw_101, mw_1946⟩, by decide +kernel⟩
theorem cw_L_107 : gx_Wv RL 107 yX11_homes cX11_homes 2 (some .int) 1 := ⟨⟨mw_1069, mw_1070, mw_1071, mw_89, mw_1072⟩, by decide +kernel⟩
theorem cw_L_110 : gx_Wv RL 110 yX12_homes cX12_homes 2 (some .int) 1 := ⟨⟨mw_1951, mw_1952, mw_1953, mw_101, mw_1954⟩, by decide +kernel⟩
theorem cw_L_111 : gx_Wv RL 111 yX11_sail cX11_sail 7 (some .int) 5 := ⟨⟨mw_1073, mw_1074, mw_1075, mw_89, mw_1076⟩, by decide +kernel⟩
theorem cw_L_115 : gx_Wv RL 115 yX12_sail cX12_sail 6 (some .int) 5 := ⟨⟨mw_1955, mw_1956, mw_1957, mw_101, mw_1958⟩, by decide +kernel⟩
theorem cw_L_116 : gx_Wv RL 116 yX11_soonest cX11_soonest 10 (some .int) 3 := ⟨⟨mw_1104, mw_1105, mw_1106, mw_89, mw_1107⟩, by decide +kernel⟩
theorem cw_L_120 : gx_Wv RL 120 yX12_soonest cX12_soonest 10 (some .int) 3 := ⟨⟨mw_1983, mw_1984, mw_1985, mw_101, mw_1986⟩, by decide +kernel⟩
theorem dL_law_754 : decode cL_law 754 = .ok (.aload_n 1, 1) := by decide +kernel
theorem dL_law_755 : decode cL_law 755 = .ok (.aload_n 0, 1) := by decide +kernel
theorem dL_law_756 : decode cL_law 756 = .ok (.iload 4, 2) := by decide +kernel
theorem dL_law_758 : decode cL_law 758 = .ok (.iconst 1, 1) := by decide +kernel
theorem dL_law_759 : decode cL_law 759 = .ok (.iadd, 1) := by decide +kernel
theorem dL_law_760 : decode cL_law 760 = .ok (.iaload, 1) := by decide +kernel
theorem dL_law_761 : decode cL_law 761 = .ok (.invokevirtual 99, 3) := by decide +kernel
theorem dL_law_764 : decode cL_law 764 = .ok (.aload_n 2, 1) := by decide +kernel
theorem dL_law_765 : decode cL_law 765 = .ok (.aload_n 0, 1) := by decide +kernel
theorem dL_law_766 : decode cL_law 766 = .ok (.iload 4, 2) := by decide +kernel
theorem dL_law_768 : decode cL_law 768 = .ok (.iconst 1, 1) := by decide +kernel
theorem dL_law_769 : decode cL_law 769 = .ok (.iadd, 1) := by decide +kernel
theorem dL_law_770 : decode cL_law 770 = .ok (.iaload, 1) := by decide +kernel
theorem dL_law_771 : decode cL_law 771 = .ok (.invokevirtual 102, 3) := by decide +kernel
theorem dL_law_774 : decode cL_law 774 = .ok (.if_icmp .eq 971, 3) := by decide +kernel
theorem dL_law_779 : decode cL_law 779 = .ok (.aload_n 1, 1) := by decide +kernel
theorem dL_law_780 : decode cL_law 780 = .ok (.aload_n 0, 1) := by decide +kernel
theorem dL_law_781 : decode cL_law 781 = .ok (.iload 4, 2) := by decide +kernel
theorem dL_law_783 : decode cL_law 783 = .ok (.iconst 1, 1) := by decide +kernel
theorem dL_law_784 : decode cL_law 784 = .ok (.iadd, 1) := by decide +kernel
theorem dL_law_785 : decode cL_law 785 = .ok (.iaload, 1) := by decide +kernel
theorem dL_law_786 : decode cL_law 786 = .ok (.invokevirtual 103, 3) := by decide +kernel
theorem dL_law_789 : decode cL_law 789 = .ok (.aload_n 2, 1) := by decide +kernel
theorem dL_law_790 : decode cL_law 790 = .ok (.aload_n 0, 1) := by decide +kernel
theorem dL_law_791 : decode cL_law 791 = .ok (.iload 4, 2) := by decide +kernel
theorem dL_law_793 : decode cL_law 793 = .ok (.iconst 1, 1) := by decide +kernel
theorem dL_law_794 : decode cL_law 794 = .ok (.iadd, 1) := by decide +kernel
theorem dL_law_795 : decode cL_law 795 = .ok (.iaload, 1) := by decide +kernel
theorem dL_law_796 : decode cL_law 796 = .ok (.invokevirtual 106, 3) := by decide +kernel
theorem dL_law_799 : decode cL_law 799 = .ok (.if_icmp .eq 946, 3) := by decide +kernel
theorem dL_law_804 : decode cL_law 804 = .ok (.aload_n 1, 1) := by decide +kernel
theorem dL_law_805 : decode cL_law 805 = .ok (.aload_n 0, 1) := by decide +kernel
theorem dL_law_806 : decode cL_law 806 = .ok (.iload 4, 2) := by decide +kernel
theorem dL_law_808 : decode cL_law 808 = .ok (.iconst 1, 1) := by decide +kernel
theorem dL_law_809 : decode cL_law 809 = .ok (.iadd, 1) := by decide +kernel
theorem dL_law_810 : decode cL_law 810 = .ok (.iaload, 1) := by decide +kernel
theorem dL_law_811 : decode cL_law 811 = .ok (.invokevirtual 107, 3) := by decide +kernel
theorem dL_law_814 : decode cL_law 814 = .ok (.aload_n 2, 1) := by decide +kernel
theorem dL_law_815 : decode cL_law 815 = .ok (.aload_n 0, 1) := by decide +kernel
theorem dL_law_816 : decode cL_law 816 = .ok (.iload 4, 2) := by decide +kernel
theorem dL_law_818 : decode cL_law 818 = .ok (.iconst 1, 1) := by decide +kernel
theorem dL_law_819 : decode cL_law 819 = .ok (.iadd, 1) := by decide +kernel
theorem dL_law_820 : decode cL_law 820 = .ok (.iaload, 1) := by decide +kernel
theorem dL_law_821 : decode cL_law 821 = .ok (.invokevirtual 110, 3) := by decide +kernel
theorem dL_law_824 : decode cL_law 824 = .ok (.if_icmp .eq 921, 3) := by decide +kernel
theorem dL_law_829 : decode cL_law 829 = .ok (.aload_n 1, 1) := by decide +kernel
theorem dL_law_830 : decode cL_law 830 = .ok (.aload_n 0, 1) := by decide +kernel
theorem dL_law_831 : decode cL_law 831 = .ok (.iload 4, 2) := by decide +kernel
theorem dL_law_833 : decode cL_law 833 = .ok (.iconst 1, 1) := by decide +kernel
theorem dL_law_834 : decode cL_law 834 = .ok (.iadd, 1) := by decide +kernel
theorem dL_law_835 : decode cL_law 835 = .ok (.iaload, 1) := by decide +kernel
theorem dL_law_836 : decode cL_law 836 = .ok (.aload_n 0, 1) := by decide +kernel
theorem dL_law_837 : decode cL_law 837 = .ok (.iload 4, 2) := by decide +kernel
theorem dL_law_839 : decode cL_law 839 = .ok (.iconst 2, 1) := by decide +kernel
theorem dL_law_840 : decode cL_law 840 = .ok (.iadd, 1) := by decide +kernel
theorem dL_law_841 : decode cL_law 841 = .ok (.iaload, 1) := by decide +kernel
theorem dL_law_842 : decode cL_law 842 = .ok (.aload_n 0, 1) := by decide +kernel
theorem dL_law_843 : decode cL_law 843 = .ok (.iload 4, 2) := by decide +kernel
theorem dL_law_845 : decode cL_law 845 = .ok (.iconst 3, 1) := by decide +kernel
theorem dL_law_846 : decode cL_law 846 = .ok (.iadd, 1) := by decide +kernel
theorem dL_law_847 : decode cL_law 847 = .ok (.iaload, 1) := by decide +kernel
theorem dL_law_848 : decode cL_law 848 = .ok (.aload_n 0, 1) := by decide +kernel
theorem dL_law_849 : decode cL_law 849 = .ok (.iload 4, 2) := by decide +kernel
theorem dL_law_851 : decode cL_law 851 = .ok (.iconst 4, 1) := by decide +kernel
theorem dL_law_852 : decode cL_law 852 = .ok (.iadd, 1) := by decide +kernel
theorem dL_law_853 : decode cL_law 853 = .ok (.iaload, 1) := by decide +kernel
theorem dL_law_854 : decode cL_law 854 = .ok (.aload_n 0, 1) := by decide +kernel
theorem dL_law_855 : decode cL_law 855 = .ok (.iload 4, 2) := by decide +kernel
theorem dL_law_857 : decode cL_law 857 = .ok (.iconst 5, 1) := by decide +kernel
theorem dL_law_858 : decode cL_law 858 = .ok (.iadd, 1) := by decide +kernel
theorem dL_law_859 : decode cL_law 859 = .ok (.iaload, 1) := by decide +kernel
theorem dL_law_860 : decode cL_law 860 = .ok (.invokevirtual 111, 3) := by decide +kernel
theorem dL_law_863 : decode cL_law 863 = .ok (.aload_n 2, 1) := by decide +kernel
theorem dL_law_864 : decode cL_law 864 = .ok (.aload_n 0, 1) := by decide +kernel
theorem dL_law_865 : decode cL_law 865 = .ok (.iload 4, 2) := by decide +kernel
theorem dL_law_867 : decode cL_law 867 = .ok (.iconst 1, 1) := by decide +kernel
theorem dL_law_868 : decode cL_law 868 = .ok (.iadd, 1) := by decide +kernel
theorem dL_law_869 : decode cL_law 869 = .ok (.iaload, 1) := by decide +kernel
theorem dL_law_870 : decode cL_law 870 = .ok (.aload_n 0, 1) := by decide +kernel
theorem dL_law_871 : decode cL_law 871 = .ok (.iload 4, 2) := by decide +kernel
theorem dL_law_873 : decode cL_law 873 = .ok (.iconst 2, 1) := by decide +kernel
theorem dL_law_874 : decode cL_law 874 = .ok (.iadd, 1) := by decide +kernel
theorem dL_law_875 : decode cL_law 875 = .ok (.iaload, 1) := by decide +kernel
theorem dL_law_876 : decode cL_law 876 = .ok (.aload_n 0, 1) := by decide +kernel
theorem dL_law_877 : decode cL_law 877 = .ok (.iload 4, 2) := by decide +kernel
theorem dL_law_879 : decode cL_law 879 = .ok (.iconst 3, 1) := by decide +kernel
theorem dL_law_880 : decode cL_law 880 = .ok (.iadd, 1) := by decide +kernel
theorem dL_law_881 : decode cL_law 881 = .ok (.iaload, 1) := by decide +kernel
theorem dL_law_882 : decode cL_law 882 = .ok (.aload_n 0, 1) := by decide +kernel
theorem dL_law_883 : decode cL_law 883 = .ok (.iload 4, 2) := by decide +kernel
theorem dL_law_885 : decode cL_law 885 = .ok (.iconst 4, 1) := by decide +kernel
theorem dL_law_886 : decode cL_law 886 = .ok (.iadd, 1) := by decide +kernel
theorem dL_law_887 : decode cL_law 887 = .ok (.iaload, 1) := by decide +kernel
theorem dL_law_888 : decode cL_law 888 = .ok (.aload_n 0, 1) := by decide +kernel
theorem dL_law_889 : decode cL_law 889 = .ok (.iload 4, 2) := by decide +kernel
theorem dL_law_891 : decode cL_law 891 = .ok (.iconst 5, 1) := by decide +kernel
theorem dL_law_892 : decode cL_law 892 = .ok (.iadd, 1) := by decide +kernel
theorem dL_law_893 : decode cL_law 893 = .ok (.iaload, 1) := by decide +kernel
theorem dL_law_894 : decode cL_law 894 = .ok (.invokevirtual 115, 3) := by decide +kernel
theorem dL_law_897 : decode cL_law 897 = .ok (.if_icmp .eq 848, 3) := by decide +kernel
theorem dL_law_902 : decode cL_law 902 = .ok (.aload_n 1, 1) := by decide +kernel
theorem dL_law_903 : decode cL_law 903 = .ok (.aload_n 0, 1) := by decide +kernel
theorem dL_law_904 : decode cL_law 904 = .ok (.iload 4, 2) := by decide +kernel
theorem dL_law_906 : decode cL_law 906 = .ok (.iconst 1, 1) := by decide +kernel
theorem dL_law_907 : decode cL_law 907 = .ok (.iadd, 1) := by decide +kernel
theorem dL_law_908 : decode cL_law 908 = .ok (.iaload, 1) := by decide +kernel
theorem dL_law_909 : decode cL_law 909 = .ok (.aload_n 0, 1) := by decide +kernel
theorem dL_law_910 : decode cL_law 910 = .ok (.iload 4, 2) := by decide +kernel
theorem dL_law_912 : decode cL_law 912 = .ok (.iconst 2, 1) := by decide +kernel
theorem dL_law_913 : decode cL_law 913 = .ok (.iadd, 1) := by decide +kernel
theorem dL_law_914 : decode cL_law 914 = .ok (.iaload, 1) := by decide +kernel
theorem dL_law_915 : decode cL_law 915 = .ok (.aload_n 0, 1) := by decide +kernel
theorem dL_law_916 : decode cL_law 916 = .ok (.iload 4, 2) := by decide +kernel
theorem dL_law_918 : decode cL_law 918 = .ok (.iconst 3, 1) := by decide +kernel
theorem dL_law_919 : decode cL_law 919 = .ok (.iadd, 1) := by decide +kernel
theorem dL_law_920 : decode cL_law 920 = .ok (.iaload, 1) := by decide +kernel
theorem dL_law_921 : decode cL_law 921 = .ok (.invokevirtual 116, 3) := by decide +kernel
theorem dL_law_924 : decode cL_law 924 = .ok (.aload_n 2, 1) := by decide +kernel
theorem dL_law_925 : decode cL_law 925 = .ok (.aload_n 0, 1) := by decide +kernel
theorem dL_law_926 : decode cL_law 926 = .ok (.iload 4, 2) := by decide +kernel
theorem dL_law_928 : decode cL_law 928 = .ok (.iconst 1, 1) := by decide +kernel
theorem dL_law_929 : decode cL_law 929 = .ok (.iadd, 1) := by decide +kernel
theorem dL_law_930 : decode cL_law 930 = .ok (.iaload, 1) := by decide +kernel
theorem dL_law_931 : decode cL_law 931 = .ok (.aload_n 0, 1) := by decide +kernel
theorem dL_law_932 : decode cL_law 932 = .ok (.iload 4, 2) := by decide +kernel
theorem dL_law_934 : decode cL_law 934 = .ok (.iconst 2, 1) := by decide +kernel
theorem dL_law_935 : decode cL_law 935 = .ok (.iadd, 1) := by decide +kernel
theorem dL_law_936 : decode cL_law 936 = .ok (.iaload, 1) := by decide +kernel
theorem dL_law_937 : decode cL_law 937 = .ok (.aload_n 0, 1) := by decide +kernel
theorem dL_law_938 : decode cL_law 938 = .ok (.iload 4, 2) := by decide +kernel
theorem dL_law_940 : decode cL_law 940 = .ok (.iconst 3, 1) := by decide +kernel
theorem dL_law_941 : decode cL_law 941 = .ok (.iadd, 1) := by decide +kernel
theorem dL_law_942 : decode cL_law 942 = .ok (.iaload, 1) := by decide +kernel
theorem dL_law_943 : decode cL_law 943 = .ok (.invokevirtual 120, 3) := by decide +kernel
theorem dL_law_946 : decode cL_law 946 = .ok (.if_icmp .eq 799, 3) := by decide +kernel
