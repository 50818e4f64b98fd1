theorem mw_1108 : (Cond.methodLink RL 121 yX11_basin) ∈ gx_G := gx_mem 1108 (by decide +kernel) (by decide +kernel)
theorem mw_1109 : (Cond.instanceMethod yX11_basin) ∈ gx_G := gx_mem 1109 (by decide +kernel) (by decide +kernel)
theorem mw_1110 : (Cond.selects RX11 yX11_basin yX11_basin) ∈ gx_G := gx_mem 1110 (by decide +kernel) (by decide +kernel)
theorem mw_1111 : (Cond.code yX11_basin cX11_basin 9 (some .int)) ∈ gx_G := gx_mem 1111 (by decide +kernel) (by decide +kernel)
theorem mw_1112 : (Cond.methodLink RL 125 yX11_boat) ∈ gx_G := gx_mem 1112 (by decide +kernel) (by decide +kernel)
theorem mw_1113 : (Cond.instanceMethod yX11_boat) ∈ gx_G := gx_mem 1113 (by decide +kernel) (by decide +kernel)
theorem mw_1114 : (Cond.selects RX11 yX11_boat yX11_boat) ∈ gx_G := gx_mem 1114 (by decide +kernel) (by decide +kernel)
theorem mw_1115 : (Cond.code yX11_boat cX11_boat 6 (some .int)) ∈ gx_G := gx_mem 1115 (by decide +kernel) (by decide +kernel)
theorem mw_1116 : (Cond.methodLink RL 129 yX11_coins) ∈ gx_G := gx_mem 1116 (by decide +kernel) (by decide +kernel)
theorem mw_1117 : (Cond.instanceMethod yX11_coins) ∈ gx_G := gx_mem 1117 (by decide +kernel) (by decide +kernel)
theorem mw_1118 : (Cond.selects RX11 yX11_coins yX11_coins) ∈ gx_G := gx_mem 1118 (by decide +kernel) (by decide +kernel)
theorem mw_1119 : (Cond.code yX11_coins cX11_coins 6 (some .int)) ∈ gx_G := gx_mem 1119 (by decide +kernel) (by decide +kernel)
theorem mw_1120 : (Cond.methodLink RL 133 yX11_waits) ∈ gx_G := gx_mem 1120 (by decide +kernel) (by decide +kernel)
theorem mw_1121 : (Cond.instanceMethod yX11_waits) ∈ gx_G := gx_mem 1121 (by decide +kernel) (by decide +kernel)
theorem mw_1122 : (Cond.selects RX11 yX11_waits yX11_waits) ∈ gx_G := gx_mem 1122 (by decide +kernel) (by decide +kernel)
theorem mw_1123 : (Cond.code yX11_waits cX11_waits 11 (some .int)) ∈ gx_G := gx_mem 1123 (by decide +kernel) (by decide +kernel)
theorem mw_1124 : (Cond.methodLink RL 137 yX11_round) ∈ gx_G := gx_mem 1124 (by decide +kernel) (by decide +kernel)
theorem mw_1125 : (Cond.instanceMethod yX11_round) ∈ gx_G := gx_mem 1125 (by decide +kernel) (by decide +kernel)
theorem mw_1126 : (Cond.selects RX11 yX11_round yX11_round) ∈ gx_G := gx_mem 1126 (by decide +kernel) (by decide +kernel)
theorem mw_1127 : (Cond.code yX11_round cX11_round 4 (some .int)) ∈ gx_G := gx_mem 1127 (by decide +kernel) (by decide +kernel)
theorem mw_1987 : (Cond.methodLink RL 124 yX12_basin) ∈ gx_G := gx_mem 1987 (by decide +kernel) (by decide +kernel)
theorem mw_1988 : (Cond.instanceMethod yX12_basin) ∈ gx_G := gx_mem 1988 (by decide +kernel) (by decide +kernel)
theorem mw_1989 : (Cond.selects RX12 yX12_basin yX12_basin) ∈ gx_G := gx_mem 1989 (by decide +kernel) (by decide +kernel)
theorem mw_1990 : (Cond.code yX12_basin cX12_basin 8 (some .int)) ∈ gx_G := gx_mem 1990 (by decide +kernel) (by decide +kernel)
theorem mw_1991 : (Cond.methodLink RL 128 yX12_boat) ∈ gx_G := gx_mem 1991 (by decide +kernel) (by decide +kernel)
theorem mw_1992 : (Cond.instanceMethod yX12_boat) ∈ gx_G := gx_mem 1992 (by decide +kernel) (by decide +kernel)
theorem mw_1993 : (Cond.selects RX12 yX12_boat yX12_boat) ∈ gx_G := gx_mem 1993 (by decide +kernel) (by decide +kernel)
theorem mw_1994 : (Cond.code yX12_boat cX12_boat 6 (some .int)) ∈ gx_G := gx_mem 1994 (by decide +kernel) (by decide +kernel)
theorem mw_1995 : (Cond.methodLink RL 132 yX12_coins) ∈ gx_G := gx_mem 1995 (by decide +kernel) (by decide +kernel)
theorem mw_1996 : (Cond.instanceMethod yX12_coins) ∈ gx_G := gx_mem 1996 (by decide +kernel) (by decide +kernel)
theorem mw_1997 : (Cond.selects RX12 yX12_coins yX12_coins) ∈ gx_G := gx_mem 1997 (by decide +kernel) (by decide +kernel)
theorem mw_1998 : (Cond.code yX12_coins cX12_coins 6 (some .int)) ∈ gx_G := gx_mem 1998 (by decide +kernel) (by decide +kernel)
theorem mw_1999 : (Cond.methodLink RL 136 yX12_waits) ∈ gx_G := gx_mem 1999 (by decide +kernel) (by decide +kernel)
theorem mw_2000 : (Cond.instanceMethod yX12_waits) ∈ gx_G := gx_mem 2000 (by decide +kernel) (by decide +kernel)
theorem mw_2001 : (Cond.selects RX12 yX12_waits yX12_waits) ∈ gx_G := gx_mem 2001 (by decide +kernel) (by decide +kernel)
theorem mw_2002 : (Cond.code yX12_waits cX12_waits 11 (some .int)) ∈ gx_G := gx_mem 2002 (by decide +kernel) (by decide +kernel)
theorem mw_2003 : (Cond.methodLink RL 140 yX12_round) ∈ gx_G := gx_mem 2003 (by decide +kernel) (by decide +kernel)
theorem mw_2004 : (Cond.instanceMethod yX12_round) ∈ gx_G := gx_mem 2004 (by decide +kernel) (by decide +kernel)
theorem mw_2005 : (Cond.selects RX12 yX12_round yX12_round) ∈ gx_G := gx_mem 2005 (by decide +kernel) (by decide +kernel)
theorem mw_2006 : (Cond.code yX12_round cX12_round 5 (some .int)) ∈ gx_G := gx_mem 2006 (by decide +kernel) (by decide +kernel)
theorem cw_L_121 : gx_Wv RL 121 yX11_basin cX11_basin 9 (some .int) 3 := ⟨⟨mw_1108, mw_1109, mw_1110, mw_89, mw_1111⟩, by decide +kernel⟩
theorem cw_L_124 : gx_Wv RL 124 yX12_basin cX12_basin 8 (some .int) 3 := ⟨⟨mw_1987, mw_1988, mw_1989, mw_101, mw_1990⟩, by decide +kernel⟩
theorem cw_L_125 : gx_Wv RL 125 yX11_boat cX11_boat 6 (some .int) 3 := ⟨⟨mw_1112, mw_1113, mw_1114, mw_89, mw_1115⟩, by decide +kernel⟩
theorem cw_L_128 : gx_Wv RL 128 yX12_boat cX12_boat 6 (some .int) 3 := ⟨⟨mw_1991, mw_1992, mw_1993, mw_101, mw_1994⟩, by decide +kernel⟩
theorem cw_L_129 : gx_Wv RL 129 yX11_coins cX11_coins 6 (some .int) 3 := ⟨⟨mw_1116, mw_1117, mw_1118, mw_89, mw_1119⟩, by decide +kernel⟩
theorem cw_L_132 : gx_Wv RL 132 yX12_coins cX12_coins 6 (some .int) 3 := ⟨⟨mw_1995, mw_1996, mw_1997, mw_101, mw_1998⟩, by decide +kernel⟩
theorem cw_L_133 : gx_Wv RL 133 yX11_waits cX11_waits 11 (some .int) 4 := ⟨⟨mw_1120, mw_1121, mw_1122, mw_89, mw_1123⟩, by decide +kernel⟩
theorem cw_L_136 : gx_Wv RL 136 yX12_waits cX12_waits 11 (some .int) 4 := ⟨⟨mw_1999, mw_2000, mw_2001, mw_101, mw_2002⟩, by decide +kernel⟩
theorem cw_L_137 : gx_Wv RL 137 yX11_round cX11_round 4 (some .int) 1 := ⟨⟨mw_1124, mw_1125, mw_1126, mw_89, mw_1127⟩, by decide +kernel⟩
theorem cw_L_140 : gx_Wv RL 140 yX12_round cX12_round 5 (some .int) 1 := ⟨⟨mw_2003, mw_2004, mw_2005, mw_101, mw_2006⟩, by decide +kernel⟩
theorem dL_law_951 : decode cL_law 951 = .ok (.aload_n 1, 1) := by decide +kernel
theorem dL_law_952 : decode cL_law 952 = .ok (.aload_n 0, 1) := by decide +kernel
theorem dL_law_953 : decode cL_law 953 = .ok (.iload 4, 2) := by decide +kernel
theorem dL_law_955 : decode cL_law 955 = .ok (.iconst 1, 1) := by decide +kernel
theorem dL_law_956 : decode cL_law 956 = .ok (.iadd, 1) := by decide +kernel
theorem dL_law_957 : decode cL_law 957 = .ok (.iaload, 1) := by decide +kernel
theorem dL_law_958 : decode cL_law 958 = .ok (.aload_n 0, 1) := by decide +kernel
theorem dL_law_959 : decode cL_law 959 = .ok (.iload 4, 2) := by decide +kernel
theorem dL_law_961 : decode cL_law 961 = .ok (.iconst 2, 1) := by decide +kernel
theorem dL_law_962 : decode cL_law 962 = .ok (.iadd, 1) := by decide +kernel
theorem dL_law_963 : decode cL_law 963 = .ok (.iaload, 1) := by decide +kernel
theorem dL_law_964 : decode cL_law 964 = .ok (.aload_n 0, 1) := by decide +kernel
theorem dL_law_965 : decode cL_law 965 = .ok (.iload 4, 2) := by decide +kernel
theorem dL_law_967 : decode cL_law 967 = .ok (.iconst 3, 1) := by decide +kernel
theorem dL_law_968 : decode cL_law 968 = .ok (.iadd, 1) := by decide +kernel
theorem dL_law_969 : decode cL_law 969 = .ok (.iaload, 1) := by decide +kernel
theorem dL_law_970 : decode cL_law 970 = .ok (.invokevirtual 121, 3) := by decide +kernel
theorem dL_law_973 : decode cL_law 973 = .ok (.aload_n 2, 1) := by decide +kernel
theorem dL_law_974 : decode cL_law 974 = .ok (.aload_n 0, 1) := by decide +kernel
theorem dL_law_975 : decode cL_law 975 = .ok (.iload 4, 2) := by decide +kernel
theorem dL_law_977 : decode cL_law 977 = .ok (.iconst 1, 1) := by decide +kernel
theorem dL_law_978 : decode cL_law 978 = .ok (.iadd, 1) := by decide +kernel
theorem dL_law_979 : decode cL_law 979 = .ok (.iaload, 1) := by decide +kernel
theorem dL_law_980 : decode cL_law 980 = .ok (.aload_n 0, 1) := by decide +kernel
theorem dL_law_981 : decode cL_law 981 = .ok (.iload 4, 2) := by decide +kernel
theorem dL_law_983 : decode cL_law 983 = .ok (.iconst 2, 1) := by decide +kernel
theorem dL_law_984 : decode cL_law 984 = .ok (.iadd, 1) := by decide +kernel
theorem dL_law_985 : decode cL_law 985 = .ok (.iaload, 1) := by decide +kernel
theorem dL_law_986 : decode cL_law 986 = .ok (.aload_n 0, 1) := by decide +kernel
theorem dL_law_987 : decode cL_law 987 = .ok (.iload 4, 2) := by decide +kernel
theorem dL_law_989 : decode cL_law 989 = .ok (.iconst 3, 1) := by decide +kernel
theorem dL_law_990 : decode cL_law 990 = .ok (.iadd, 1) := by decide +kernel
theorem dL_law_991 : decode cL_law 991 = .ok (.iaload, 1) := by decide +kernel
theorem dL_law_992 : decode cL_law 992 = .ok (.invokevirtual 124, 3) := by decide +kernel
theorem dL_law_995 : decode cL_law 995 = .ok (.if_icmp .eq 750, 3) := by decide +kernel
theorem dL_law_1000 : decode cL_law 1000 = .ok (.aload_n 1, 1) := by decide +kernel
theorem dL_law_1001 : decode cL_law 1001 = .ok (.aload_n 0, 1) := by decide +kernel
theorem dL_law_1002 : decode cL_law 1002 = .ok (.iload 4, 2) := by decide +kernel
theorem dL_law_1004 : decode cL_law 1004 = .ok (.iconst 1, 1) := by decide +kernel
theorem dL_law_1005 : decode cL_law 1005 = .ok (.iadd, 1) := by decide +kernel
theorem dL_law_1006 : decode cL_law 1006 = .ok (.iaload, 1) := by decide +kernel
theorem dL_law_1007 : decode cL_law 1007 = .ok (.aload_n 0, 1) := by decide +kernel
theorem dL_law_1008 : decode cL_law 1008 = .ok (.iload 4, 2) := by decide +kernel
theorem dL_law_1010 : decode cL_law 1010 = .ok (.iconst 2, 1) := by decide +kernel
theorem dL_law_1011 : decode cL_law 1011 = .ok (.iadd, 1) := by decide +kernel
theorem dL_law_1012 : decode cL_law 1012 = .ok (.iaload, 1) := by decide +kernel
theorem dL_law_1013 : decode cL_law 1013 = .ok (.aload_n 0, 1) := by decide +kernel
theorem dL_law_1014 : decode cL_law 1014 = .ok (.iload 4, 2) := by decide +kernel
theorem dL_law_1016 : decode cL_law 1016 = .ok (.iconst 3, 1) := by decide +kernel
theorem dL_law_1017 : decode cL_law 1017 = .ok (.iadd, 1) := by decide +kernel
theorem dL_law_1018 : decode cL_law 1018 = .ok (.iaload, 1) := by decide +kernel
theorem dL_law_1019 : decode cL_law 1019 = .ok (.invokevirtual 125, 3) := by decide +kernel
theorem dL_law_1022 : decode cL_law 1022 = .ok (.aload_n 2, 1) := by decide +kernel
theorem dL_law_1023 : decode cL_law 1023 = .ok (.aload_n 0, 1) := by decide +kernel
theorem dL_law_1024 : decode cL_law 1024 = .ok (.iload 4, 2) := by decide +kernel
theorem dL_law_1026 : decode cL_law 1026 = .ok (.iconst 1, 1) := by decide +kernel
theorem dL_law_1027 : decode cL_law 1027 = .ok (.iadd, 1) := by decide +kernel
theorem dL_law_1028 : decode cL_law 1028 = .ok (.iaload, 1) := by decide +kernel
theorem dL_law_1029 : decode cL_law 1029 = .ok (.aload_n 0, 1) := by decide +kernel
theorem dL_law_1030 : decode cL_law 1030 = .ok (.iload 4, 2) := by decide +kernel
theorem dL_law_1032 : decode cL_law 1032 = .ok (.iconst 2, 1) := by decide +kernel
theorem dL_law_1033 : decode cL_law 1033 = .ok (.iadd, 1) := by decide +kernel
theorem dL_law_1034 : decode cL_law 1034 = .ok (.iaload, 1) := by decide +kernel
theorem dL_law_1035 : decode cL_law 1035 = .ok (.aload_n 0, 1) := by decide +kernel
theorem dL_law_1036 : decode cL_law 1036 = .ok (.iload 4, 2) := by decide +kernel
theorem dL_law_1038 : decode cL_law 1038 = .ok (.iconst 3, 1) := by decide +kernel
theorem dL_law_1039 : decode cL_law 1039 = .ok (.iadd, 1) := by decide +kernel
theorem dL_law_1040 : decode cL_law 1040 = .ok (.iaload, 1) := by decide +kernel
theorem dL_law_1041 : decode cL_law 1041 = .ok (.invokevirtual 128, 3) := by decide +kernel
theorem dL_law_1044 : decode cL_law 1044 = .ok (.if_icmp .eq 701, 3) := by decide +kernel
theorem dL_law_1049 : decode cL_law 1049 = .ok (.aload_n 1, 1) := by decide +kernel
theorem dL_law_1050 : decode cL_law 1050 = .ok (.aload_n 0, 1) := by decide +kernel
theorem dL_law_1051 : decode cL_law 1051 = .ok (.iload 4, 2) := by decide +kernel
theorem dL_law_1053 : decode cL_law 1053 = .ok (.iconst 1, 1) := by decide +kernel
theorem dL_law_1054 : decode cL_law 1054 = .ok (.iadd, 1) := by decide +kernel
theorem dL_law_1055 : decode cL_law 1055 = .ok (.iaload, 1) := by decide +kernel
theorem dL_law_1056 : decode cL_law 1056 = .ok (.aload_n 0, 1) := by decide +kernel
theorem dL_law_1057 : decode cL_law 1057 = .ok (.iload 4, 2) := by decide +kernel
theorem dL_law_1059 : decode cL_law 1059 = .ok (.iconst 2, 1) := by decide +kernel
theorem dL_law_1060 : decode cL_law 1060 = .ok (.iadd, 1) := by decide +kernel
theorem dL_law_1061 : decode cL_law 1061 = .ok (.iaload, 1) := by decide +kernel
theorem dL_law_1062 : decode cL_law 1062 = .ok (.aload_n 0, 1) := by decide +kernel
theorem dL_law_1063 : decode cL_law 1063 = .ok (.iload 4, 2) := by decide +kernel
theorem dL_law_1065 : decode cL_law 1065 = .ok (.iconst 3, 1) := by decide +kernel
theorem dL_law_1066 : decode cL_law 1066 = .ok (.iadd, 1) := by decide +kernel
theorem dL_law_1067 : decode cL_law 1067 = .ok (.iaload, 1) := by decide +kernel
theorem dL_law_1068 : decode cL_law 1068 = .ok (.invokevirtual 129, 3) := by decide +kernel
theorem dL_law_1071 : decode cL_law 1071 = .ok (.aload_n 2, 1) := by decide +kernel
theorem dL_law_1072 : decode cL_law 1072 = .ok (.aload_n 0, 1) := by decide +kernel
theorem dL_law_1073 : decode cL_law 1073 = .ok (.iload 4, 2) := by decide +kernel
theorem dL_law_1075 : decode cL_law 1075 = .ok (.iconst 1, 1) := by decide +kernel
theorem dL_law_1076 : decode cL_law 1076 = .ok (.iadd, 1) := by decide +kernel
theorem dL_law_1077 : decode cL_law 1077 = .ok (.iaload, 1) := by decide +kernel
theorem dL_law_1078 : decode cL_law 1078 = .ok (.aload_n 0, 1) := by decide +kernel
theorem dL_law_1079 : decode cL_law 1079 = .ok (.iload 4, 2) := by decide +kernel
theorem dL_law_1081 : decode cL_law 1081 = .ok (.iconst 2, 1) := by decide +kernel
theorem dL_law_1082 : decode cL_law 1082 = .ok (.iadd, 1) := by decide +kernel
theorem dL_law_1083 : decode cL_law 1083 = .ok (.iaload, 1) := by decide +kernel
theorem dL_law_1084 : decode cL_law 1084 = .ok (.aload_n 0, 1) := by decide +kernel
theorem dL_law_1085 : decode cL_law 1085 = .ok (.iload 4, 2) := by decide +kernel
theorem dL_law_1087 : decode cL_law 1087 = .ok (.iconst 3, 1) := by decide +kernel
theorem dL_law_1088 : decode cL_law 1088 = .ok (.iadd, 1) := by decide +kernel
theorem dL_law_1089 : decode cL_law 1089 = .ok (.iaload, 1) := by decide +kernel
theorem dL_law_1090 : decode cL_law 1090 = .ok (.invokevirtual 132, 3) := by decide +kernel
theorem dL_law_1093 : decode cL_law 1093 = .ok (.if_icmp .eq 652, 3) := by decide +kernel
theorem dL_law_1098 : decode cL_law 1098 = .ok (.aload_n 1, 1) := by decide +kernel
theorem dL_law_1099 : decode cL_law 1099 = .ok (.aload_n 0, 1) := by decide +kernel
theorem dL_law_1100 : decode cL_law 1100 = .ok (.iload 4, 2) := by decide +kernel
theorem dL_law_1102 : decode cL_law 1102 = .ok (.iconst 1, 1) := by decide +kernel
theorem dL_law_1103 : decode cL_law 1103 = .ok (.iadd, 1) := by decide +kernel
theorem dL_law_1104 : decode cL_law 1104 = .ok (.iaload, 1) := by decide +kernel
theorem dL_law_1105 : decode cL_law 1105 = .ok (.aload_n 0, 1) := by decide +kernel
theorem dL_law_1106 : decode cL_law 1106 = .ok (.iload 4, 2) := by decide +kernel
theorem dL_law_1108 : decode cL_law 1108 = .ok (.iconst 2, 1) := by decide +kernel
theorem dL_law_1109 : decode cL_law 1109 = .ok (.iadd, 1) := by decide +kernel
theorem dL_law_1110 : decode cL_law 1110 = .ok (.iaload, 1) := by decide +kernel
theorem dL_law_1111 : decode cL_law 1111 = .ok (.aload_n 0, 1) := by decide +kernel
theorem dL_law_1112 : decode cL_law 1112 = .ok (.iload 4, 2) := by decide +kernel
theorem dL_law_1114 : decode cL_law 1114 = .ok (.iconst 3, 1) := by decide +kernel
theorem dL_law_1115 : decode cL_law 1115 = .ok (.iadd, 1) := by decide +kernel
theorem dL_law_1116 : decode cL_law 1116 = .ok (.iaload, 1) := by decide +kernel
theorem dL_law_1117 : decode cL_law 1117 = .ok (.aload_n 0, 1) := by decide +kernel
theorem dL_law_1118 : decode cL_law 1118 = .ok (.iload 4, 2) := by decide +kernel
theorem dL_law_1120 : decode cL_law 1120 = .ok (.iconst 4, 1) := by decide +kernel
theorem dL_law_1121 : decode cL_law 1121 = .ok (.iadd, 1) := by decide +kernel
theorem dL_law_1122 : decode cL_law 1122 = .ok (.iaload, 1) := by decide +kernel
theorem dL_law_1123 : decode cL_law 1123 = .ok (.invokevirtual 133, 3) := by decide +kernel
theorem dL_law_1126 : decode cL_law 1126 = .ok (.aload_n 2, 1) := by decide +kernel
theorem dL_law_1127 : decode cL_law 1127 = .ok (.aload_n 0, 1) := by decide +kernel
theorem dL_law_1128 : decode cL_law 1128 = .ok (.iload 4, 2) := by decide +kernel
theorem dL_law_1130 : decode cL_law 1130 = .ok (.iconst 1, 1) := by decide +kernel
theorem dL_law_1131 : decode cL_law 1131 = .ok (.iadd, 1) := by decide +kernel
theorem dL_law_1132 : decode cL_law 1132 = .ok (.iaload, 1) := by decide +kernel
theorem dL_law_1133 : decode cL_law 1133 = .ok (.aload_n 0, 1) := by decide +kernel
theorem dL_law_1134 : decode cL_law 1134 = .ok (.iload 4, 2) := by decide +kernel
theorem dL_law_1136 : decode cL_law 1136 = .ok (.iconst 2, 1) := by decide +kernel
theorem dL_law_1137 : decode cL_law 1137 = .ok (.iadd, 1) := by decide +kernel
theorem dL_law_1138 : decode cL_law 1138 = .ok (.iaload, 1) := by decide +kernel
theorem dL_law_1139 : decode cL_law 1139 = .ok (.aload_n 0, 1) := by decide +kernel
theorem dL_law_1140 : decode cL_law 1140 = .ok (.iload 4, 2) := by decide +kernel
theorem dL_law_1142 : decode cL_law 1142 = .ok (.iconst 3, 1) := by decide +kernel
theorem dL_law_1143 : decode cL_law 1143 = .ok (.iadd, 1) := by decide +kernel
theorem dL_law_1144 : decode cL_law 1144 = .ok (.iaload, 1) := by decide +kernel
theorem dL_law_1145 : decode cL_law 1145 = .ok (.aload_n 0, 1) := by decide +kernel
theorem dL_law_1146 : decode cL_law 1146 = .ok (.iload 4, 2) := by decide +kernel
theorem dL_law_1148 : decode cL_law 1148 = .ok (.iconst 4, 1) := by decide +kernel
theorem dL_law_1149 : decode cL_law 1149 = .ok (.iadd, 1) := by decide +kernel
theorem dL_law_1150 : decode cL_law 1150 = .ok (.iaload, 1) := by decide +kernel
theorem dL_law_1151 : decode cL_law 1151 = .ok (.invokevirtual 136, 3) := by decide +kernel
theorem dL_law_1154 : decode cL_law 1154 = .ok (.if_icmp .eq 591, 3) := by decide +kernel
theorem dL_law_1159 : decode cL_law 1159 = .ok (.aload_n 1, 1) := by decide +kernel
theorem dL_law_1160 : decode cL_law 1160 = .ok (.aload_n 0, 1) := by decide +kernel
theorem dL_law_1161 : decode cL_law 1161 = .ok (.iload 4, 2) := by decide +kernel
theorem dL_law_1163 : decode cL_law 1163 = .ok (.iconst 1, 1) := by decide +kernel
theorem dL_law_1164 : decode cL_law 1164 = .ok (.iadd, 1) := by decide +kernel
theorem dL_law_1165 : decode cL_law 1165 = .ok (.iaload, 1) := by decide +kernel
theorem dL_law_1166 : decode cL_law 1166 = .ok (.invokevirtual 137, 3) := by decide +kernel
theorem dL_law_1169 : decode cL_law 1169 = .ok (.aload_n 2, 1) := by decide +kernel
theorem dL_law_1170 : decode cL_law 1170 = .ok (.aload_n 0, 1) := by decide +kernel
theorem dL_law_1171 : decode cL_law 1171 = .ok (.iload 4, 2) := by decide +kernel
theorem dL_law_1173 : decode cL_law 1173 = .ok (.iconst 1, 1) := by decide +kernel
theorem dL_law_1174 : decode cL_law 1174 = .ok (.iadd, 1) := by decide +kernel
theorem dL_law_1175 : decode cL_law 1175 = .ok (.iaload, 1) := by decide +kernel
theorem dL_law_1176 : decode cL_law 1176 = .ok (.invokevirtual 140, 3) := by decide +kernel
theorem dL_law_1179 : decode cL_law 1179 = .ok (.if_icmp .eq 566, 3) := by decide +kernel
