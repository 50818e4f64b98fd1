theorem mw_1104 : (Cond.methodLink RL 113 yX11_soonest) ∈ gx_G := gx_mem 1104 (by decide +kernel) (by decide +kernel)
theorem mw_1105 : (Cond.instanceMethod yX11_soonest) ∈ gx_G := gx_mem 1105 (by decide +kernel) (by decide +kernel)
theorem mw_1106 : (Cond.selects RX11 yX11_soonest yX11_soonest) ∈ gx_G := gx_mem 1106 (by decide +kernel) (by decide +kernel)
theorem mw_1107 : (Cond.code yX11_soonest cX11_soonest 10 (some .int)) ∈ gx_G := gx_mem 1107 (by decide +kernel) (by decide +kernel)
theorem mw_1108 : (Cond.methodLink RL 118 yX11_basin) ∈ gx_G := gx_mem 1108 (by decide +kernel) (by decide +kernel)
theorem mw_1109 : (Cond.instanceMethod yX11_basin) ∈ gx_G := gx_mem 1109 (by decide +kernel) (by decide +kernel)
theorem mw_1110 : (Cond.selects RX11 yX11_basin yX11_basin) ∈ gx_G := gx_mem 1110 (by decide +kernel) (by decide +kernel)
theorem mw_1111 : (Cond.code yX11_basin cX11_basin 9 (some .int)) ∈ gx_G := gx_mem 1111 (by decide +kernel) (by decide +kernel)
theorem mw_1112 : (Cond.methodLink RL 122 yX11_boat) ∈ gx_G := gx_mem 1112 (by decide +kernel) (by decide +kernel)
theorem mw_1113 : (Cond.instanceMethod yX11_boat) ∈ gx_G := gx_mem 1113 (by decide +kernel) (by decide +kernel)
theorem mw_1114 : (Cond.selects RX11 yX11_boat yX11_boat) ∈ gx_G := gx_mem 1114 (by decide +kernel) (by decide +kernel)
theorem mw_1115 : (Cond.code yX11_boat cX11_boat 6 (some .int)) ∈ gx_G := gx_mem 1115 (by decide +kernel) (by decide +kernel)
theorem mw_1116 : (Cond.methodLink RL 126 yX11_coins) ∈ gx_G := gx_mem 1116 (by decide +kernel) (by decide +kernel)
theorem mw_1117 : (Cond.instanceMethod yX11_coins) ∈ gx_G := gx_mem 1117 (by decide +kernel) (by decide +kernel)
theorem mw_1118 : (Cond.selects RX11 yX11_coins yX11_coins) ∈ gx_G := gx_mem 1118 (by decide +kernel) (by decide +kernel)
theorem mw_1119 : (Cond.code yX11_coins cX11_coins 6 (some .int)) ∈ gx_G := gx_mem 1119 (by decide +kernel) (by decide +kernel)
theorem mw_1120 : (Cond.methodLink RL 130 yX11_waits) ∈ gx_G := gx_mem 1120 (by decide +kernel) (by decide +kernel)
theorem mw_1121 : (Cond.instanceMethod yX11_waits) ∈ gx_G := gx_mem 1121 (by decide +kernel) (by decide +kernel)
theorem mw_1122 : (Cond.selects RX11 yX11_waits yX11_waits) ∈ gx_G := gx_mem 1122 (by decide +kernel) (by decide +kernel)
theorem mw_1123 : (Cond.code yX11_waits cX11_waits 11 (some .int)) ∈ gx_G := gx_mem 1123 (by decide +kernel) (by decide +kernel)
theorem mw_1124 : (Cond.methodLink RL 134 yX11_round) ∈ gx_G := gx_mem 1124 (by decide +kernel) (by decide +kernel)
theorem mw_1125 : (Cond.instanceMethod yX11_round) ∈ gx_G := gx_mem 1125 (by decide +kernel) (by decide +kernel)
theorem mw_1126 : (Cond.selects RX11 yX11_round yX11_round) ∈ gx_G := gx_mem 1126 (by decide +kernel) (by decide +kernel)
theorem mw_1127 : (Cond.code yX11_round cX11_round 4 (some .int)) ∈ gx_G := gx_mem 1127 (by decide +kernel) (by decide +kernel)
theorem mw_1134 : (Cond.methodLink RL 138 yX11_save) ∈ gx_G := gx_mem 1134 (by decide +kernel) (by decide +kernel)
theorem mw_1135 : (Cond.instanceMethod yX11_save) ∈ gx_G := gx_mem 1135 (by decide +kernel) (by decide +kernel)
theorem mw_1136 : (Cond.selects RX11 yX11_save yX11_save) ∈ gx_G := gx_mem 1136 (by decide +kernel) (by decide +kernel)
theorem mw_1137 : (Cond.code yX11_save cX11_save 2 (some .int)) ∈ gx_G := gx_mem 1137 (by decide +kernel) (by decide +kernel)
theorem mw_1178 : (Cond.methodLink RL 142 yX11_steer) ∈ gx_G := gx_mem 1178 (by decide +kernel) (by decide +kernel)
theorem mw_1179 : (Cond.instanceMethod yX11_steer) ∈ gx_G := gx_mem 1179 (by decide +kernel) (by decide +kernel)
theorem mw_1180 : (Cond.selects RX11 yX11_steer yX11_steer) ∈ gx_G := gx_mem 1180 (by decide +kernel) (by decide +kernel)
theorem mw_1181 : (Cond.code yX11_steer cX11_steer 3 (some .int)) ∈ gx_G := gx_mem 1181 (by decide +kernel) (by decide +kernel)
theorem mw_1182 : (Cond.methodLink RL 146 yX11_ways) ∈ gx_G := gx_mem 1182 (by decide +kernel) (by decide +kernel)
theorem mw_1183 : (Cond.instanceMethod yX11_ways) ∈ gx_G := gx_mem 1183 (by decide +kernel) (by decide +kernel)
theorem mw_1184 : (Cond.selects RX11 yX11_ways yX11_ways) ∈ gx_G := gx_mem 1184 (by decide +kernel) (by decide +kernel)
theorem mw_1185 : (Cond.code yX11_ways cX11_ways 10 (some .int)) ∈ gx_G := gx_mem 1185 (by decide +kernel) (by decide +kernel)
theorem mw_1186 : (Cond.methodLink RL 150 yX11_duel) ∈ gx_G := gx_mem 1186 (by decide +kernel) (by decide +kernel)
theorem mw_1187 : (Cond.instanceMethod yX11_duel) ∈ gx_G := gx_mem 1187 (by decide +kernel) (by decide +kernel)
theorem mw_1188 : (Cond.selects RX11 yX11_duel yX11_duel) ∈ gx_G := gx_mem 1188 (by decide +kernel) (by decide +kernel)
theorem mw_1189 : (Cond.code yX11_duel cX11_duel 9 (some .int)) ∈ gx_G := gx_mem 1189 (by decide +kernel) (by decide +kernel)
theorem mw_1194 : (Cond.methodLink RL 154 yX11_cork) ∈ gx_G := gx_mem 1194 (by decide +kernel) (by decide +kernel)
theorem mw_1195 : (Cond.instanceMethod yX11_cork) ∈ gx_G := gx_mem 1195 (by decide +kernel) (by decide +kernel)
theorem mw_1196 : (Cond.selects RX11 yX11_cork yX11_cork) ∈ gx_G := gx_mem 1196 (by decide +kernel) (by decide +kernel)
theorem mw_1197 : (Cond.code yX11_cork cX11_cork 5 (some .int)) ∈ gx_G := gx_mem 1197 (by decide +kernel) (by decide +kernel)
theorem mw_1979 : (Cond.methodLink RL 117 yX12_soonest) ∈ gx_G := gx_mem 1979 (by decide +kernel) (by decide +kernel)
theorem mw_1980 : (Cond.instanceMethod yX12_soonest) ∈ gx_G := gx_mem 1980 (by decide +kernel) (by decide +kernel)
theorem mw_1981 : (Cond.selects RX12 yX12_soonest yX12_soonest) ∈ gx_G := gx_mem 1981 (by decide +kernel) (by decide +kernel)
theorem mw_1982 : (Cond.code yX12_soonest cX12_soonest 10 (some .int)) ∈ gx_G := gx_mem 1982 (by decide +kernel) (by decide +kernel)
theorem mw_1983 : (Cond.methodLink RL 121 yX12_basin) ∈ gx_G := gx_mem 1983 (by decide +kernel) (by decide +kernel)
theorem mw_1984 : (Cond.instanceMethod yX12_basin) ∈ gx_G := gx_mem 1984 (by decide +kernel) (by decide +kernel)
theorem mw_1985 : (Cond.selects RX12 yX12_basin yX12_basin) ∈ gx_G := gx_mem 1985 (by decide +kernel) (by decide +kernel)
theorem mw_1986 : (Cond.code yX12_basin cX12_basin 8 (some .int)) ∈ gx_G := gx_mem 1986 (by decide +kernel) (by decide +kernel)
theorem mw_1987 : (Cond.methodLink RL 125 yX12_boat) ∈ gx_G := gx_mem 1987 (by decide +kernel) (by decide +kernel)
theorem mw_1988 : (Cond.instanceMethod yX12_boat) ∈ gx_G := gx_mem 1988 (by decide +kernel) (by decide +kernel)
theorem mw_1989 : (Cond.selects RX12 yX12_boat yX12_boat) ∈ gx_G := gx_mem 1989 (by decide +kernel) (by decide +kernel)
theorem mw_1990 : (Cond.code yX12_boat cX12_boat 6 (some .int)) ∈ gx_G := gx_mem 1990 (by decide +kernel) (by decide +kernel)
theorem mw_1991 : (Cond.methodLink RL 129 yX12_coins) ∈ gx_G := gx_mem 1991 (by decide +kernel) (by decide +kernel)
theorem mw_1992 : (Cond.instanceMethod yX12_coins) ∈ gx_G := gx_mem 1992 (by decide +kernel) (by decide +kernel)
theorem mw_1993 : (Cond.selects RX12 yX12_coins yX12_coins) ∈ gx_G := gx_mem 1993 (by decide +kernel) (by decide +kernel)
theorem mw_1994 : (Cond.code yX12_coins cX12_coins 6 (some .int)) ∈ gx_G := gx_mem 1994 (by decide +kernel) (by decide +kernel)
theorem mw_1995 : (Cond.methodLink RL 133 yX12_waits) ∈ gx_G := gx_mem 1995 (by decide +kernel) (by decide +kernel)
theorem mw_1996 : (Cond.instanceMethod yX12_waits) ∈ gx_G := gx_mem 1996 (by decide +kernel) (by decide +kernel)
theorem mw_1997 : (Cond.selects RX12 yX12_waits yX12_waits) ∈ gx_G := gx_mem 1997 (by decide +kernel) (by decide +kernel)
theorem mw_1998 : (Cond.code yX12_waits cX12_waits 11 (some .int)) ∈ gx_G := gx_mem 1998 (by decide +kernel) (by decide +kernel)
theorem mw_1999 : (Cond.methodLink RL 137 yX12_round) ∈ gx_G := gx_mem 1999 (by decide +kernel) (by decide +kernel)
theorem mw_2000 : (Cond.instanceMethod yX12_round) ∈ gx_G := gx_mem 2000 (by decide +kernel) (by decide +kernel)
theorem mw_2001 : (Cond.selects RX12 yX12_round yX12_round) ∈ gx_G := gx_mem 2001 (by decide +kernel) (by decide +kernel)
theorem mw_2002 : (Cond.code yX12_round cX12_round 5 (some .int)) ∈ gx_G := gx_mem 2002 (by decide +kernel) (by decide +kernel)
theorem mw_2003 : (Cond.methodLink RL 141 yX12_save) ∈ gx_G := gx_mem 2003 (by decide +kernel) (by decide +kernel)
theorem mw_2004 : (Cond.instanceMethod yX12_save) ∈ gx_G := gx_mem 2004 (by decide +kernel) (by decide +kernel)
theorem mw_2005 : (Cond.selects RX12 yX12_save yX12_save) ∈ gx_G := gx_mem 2005 (by decide +kernel) (by decide +kernel)
theorem mw_2006 : (Cond.code yX12_save cX12_save 2 (some .int)) ∈ gx_G := gx_mem 2006 (by decide +kernel) (by decide +kernel)
theorem mw_2019 : (Cond.methodLink RL 145 yX12_steer) ∈ gx_G := gx_mem 2019 (by decide +kernel) (by decide +kernel)
theorem mw_2020 : (Cond.instanceMethod yX12_steer) ∈ gx_G := gx_mem 2020 (by decide +kernel) (by decide +kernel)
theorem mw_2021 : (Cond.selects RX12 yX12_steer yX12_steer) ∈ gx_G := gx_mem 2021 (by decide +kernel) (by decide +kernel)
theorem mw_2022 : (Cond.code yX12_steer cX12_steer 3 (some .int)) ∈ gx_G := gx_mem 2022 (by decide +kernel) (by decide +kernel)
theorem mw_2023 : (Cond.methodLink RL 149 yX12_ways) ∈ gx_G := gx_mem 2023 (by decide +kernel) (by decide +kernel)
theorem mw_2024 : (Cond.instanceMethod yX12_ways) ∈ gx_G := gx_mem 2024 (by decide +kernel) (by decide +kernel)
theorem mw_2025 : (Cond.selects RX12 yX12_ways yX12_ways) ∈ gx_G := gx_mem 2025 (by decide +kernel) (by decide +kernel)
theorem mw_2026 : (Cond.code yX12_ways cX12_ways 10 (some .int)) ∈ gx_G := gx_mem 2026 (by decide +kernel) (by decide +kernel)
theorem mw_2027 : (Cond.methodLink RL 153 yX12_duel) ∈ gx_G := gx_mem 2027 (by decide +kernel) (by decide +kernel)
theorem mw_2028 : (Cond.instanceMethod yX12_duel) ∈ gx_G := gx_mem 2028 (by decide +kernel) (by decide +kernel)
theorem mw_2029 : (Cond.selects RX12 yX12_duel yX12_duel) ∈ gx_G := gx_mem 2029 (by decide +kernel) (by decide +kernel)
theorem mw_2030 : (Cond.code yX12_duel cX12_duel 9 (some .int)) ∈ gx_G := gx_mem 2030 (by decide +kernel) (by decide +kernel)
theorem mw_2039 : (Cond.methodLink RL 157 yX12_cork) ∈ gx_G := gx_mem 2039 (by decide +kernel) (by decide +kernel)
theorem mw_2040 : (Cond.instanceMethod yX12_cork) ∈ gx_G := gx_mem 2040 (by decide +kernel) (by decide +kernel)
theorem mw_2041 : (Cond.selects RX12 yX12_cork yX12_cork) ∈ gx_G := gx_mem 2041 (by decide +kernel) (by decide +kernel)
theorem mw_2042 : (Cond.code yX12_cork cX12_cork 4 (some .int)) ∈ gx_G := gx_mem 2042 (by decide +kernel) (by decide +kernel)
theorem cw_L_113 : gx_Wv RL 113 yX11_soonest cX11_soonest 10 (some .int) 3 := ⟨⟨mw_1104, mw_1105, mw_1106, mw_89, mw_1107⟩, by decide +kernel⟩
theorem cw_L_117 : gx_Wv RL 117 yX12_soonest cX12_soonest 10 (some .int) 3 := ⟨⟨mw_1979, mw_1980, mw_1981, mw_101, mw_1982⟩, by decide +kernel⟩
theorem cw_L_118 : gx_Wv RL 118 yX11_basin cX11_basin 9 (some .int) 3 := ⟨⟨mw_1108, mw_1109, mw_1110, mw_89, mw_1111⟩, by decide +kernel⟩
theorem cw_L_121 : gx_Wv RL 121 yX12_basin cX12_basin 8 (some .int) 3 := ⟨⟨mw_1983, mw_1984, mw_1985, mw_101, mw_1986⟩, by decide +kernel⟩
theorem cw_L_122 : gx_Wv RL 122 yX11_boat cX11_boat 6 (some .int) 3 := ⟨⟨mw_1112, mw_1113, mw_1114, mw_89, mw_1115⟩, by decide +kernel⟩
theorem cw_L_125 : gx_Wv RL 125 yX12_boat cX12_boat 6 (some .int) 3 := ⟨⟨mw_1987, mw_1988, mw_1989, mw_101, mw_1990⟩, by decide +kernel⟩
theorem cw_L_126 : gx_Wv RL 126 yX11_coins cX11_coins 6 (some .int) 3 := ⟨⟨mw_1116, mw_1117, mw_1118, mw_89, mw_1119⟩, by decide +kernel⟩
theorem cw_L_129 : gx_Wv RL 129 yX12_coins cX12_coins 6 (some .int) 3 := ⟨⟨mw_1991, mw_1992, mw_1993, mw_101, mw_1994⟩, by decide +kernel⟩
theorem cw_L_130 : gx_Wv RL 130 yX11_waits cX11_waits 11 (some .int) 4 := ⟨⟨mw_1120, mw_1121, mw_1122, mw_89, mw_1123⟩, by decide +kernel⟩
theorem cw_L_133 : gx_Wv RL 133 yX12_waits cX12_waits 11 (some .int) 4 := ⟨⟨mw_1995, mw_1996, mw_1997, mw_101, mw_1998⟩, by decide +kernel⟩
theorem cw_L_134 : gx_Wv RL 134 yX11_round cX11_round 4 (some .int) 1 := ⟨⟨mw_1124, mw_1125, mw_1126, mw_89, mw_1127⟩, by decide +kernel⟩
theorem cw_L_137 : gx_Wv RL 137 yX12_round cX12_round 5 (some .int) 1 := ⟨⟨mw_1999, mw_2000, mw_2001, mw_101, mw_2002⟩, by decide +kernel⟩
theorem cw_L_138 : gx_Wv RL 138 yX11_save cX11_save 2 (some .int) 1 := ⟨⟨mw_1134, mw_1135, mw_1136, mw_89, mw_1137⟩, by decide +kernel⟩
theorem cw_L_141 : gx_Wv RL 141 yX12_save cX12_save 2 (some .int) 1 := ⟨⟨mw_2003, mw_2004, mw_2005, mw_101, mw_2006⟩, by decide +kernel⟩
theorem cw_L_142 : gx_Wv RL 142 yX11_steer cX11_steer 3 (some .int) 2 := ⟨⟨mw_1178, mw_1179, mw_1180, mw_89, mw_1181⟩, by decide +kernel⟩
theorem cw_L_145 : gx_Wv RL 145 yX12_steer cX12_steer 3 (some .int) 2 := ⟨⟨mw_2019, mw_2020, mw_2021, mw_101, mw_2022⟩, by decide +kernel⟩
theorem cw_L_146 : gx_Wv RL 146 yX11_ways cX11_ways 10 (some .int) 4 := ⟨⟨mw_1182, mw_1183, mw_1184, mw_89, mw_1185⟩, by decide +kernel⟩
theorem cw_L_149 : gx_Wv RL 149 yX12_ways cX12_ways 10 (some .int) 4 := ⟨⟨mw_2023, mw_2024, mw_2025, mw_101, mw_2026⟩, by decide +kernel⟩
theorem cw_L_150 : gx_Wv RL 150 yX11_duel cX11_duel 9 (some .int) 5 := ⟨⟨mw_1186, mw_1187, mw_1188, mw_89, mw_1189⟩, by decide +kernel⟩
theorem cw_L_153 : gx_Wv RL 153 yX12_duel cX12_duel 9 (some .int) 5 := ⟨⟨mw_2027, mw_2028, mw_2029, mw_101, mw_2030⟩, by decide +kernel⟩
theorem cw_L_154 : gx_Wv RL 154 yX11_cork cX11_cork 5 (some .int) 3 := ⟨⟨mw_1194, mw_1195, mw_1196, mw_89, mw_1197⟩, by decide +kernel⟩
theorem cw_L_157 : gx_Wv RL 157 yX12_cork cX12_cork 4 (some .int) 3 := ⟨⟨mw_2039, mw_2040, mw_2041, mw_101, mw_2042⟩, by decide +kernel⟩
theorem dL_law_846 : decode cL_law 846 = .ok (.aload_n 1, 1) := by decide +kernel
theorem dL_law_847 : decode cL_law 847 = .ok (.aload_n 0, 1) := by decide +kernel
theorem dL_law_848 : decode cL_law 848 = .ok (.iload 4, 2) := by decide +kernel
theorem dL_law_850 : decode cL_law 850 = .ok (.iconst 1, 1) := by decide +kernel
theorem dL_law_851 : decode cL_law 851 = .ok (.iadd, 1) := by decide +kernel
theorem dL_law_852 : decode cL_law 852 = .ok (.iaload, 1) := by decide +kernel
theorem dL_law_853 : decode cL_law 853 = .ok (.aload_n 0, 1) := by decide +kernel
theorem dL_law_854 : decode cL_law 854 = .ok (.iload 4, 2) := by decide +kernel
theorem dL_law_856 : decode cL_law 856 = .ok (.iconst 2, 1) := by decide +kernel
theorem dL_law_857 : decode cL_law 857 = .ok (.iadd, 1) := by decide +kernel
theorem dL_law_858 : decode cL_law 858 = .ok (.iaload, 1) := by decide +kernel
theorem dL_law_859 : decode cL_law 859 = .ok (.aload_n 0, 1) := by decide +kernel
theorem dL_law_860 : decode cL_law 860 = .ok (.iload 4, 2) := by decide +kernel
theorem dL_law_862 : decode cL_law 862 = .ok (.iconst 3, 1) := by decide +kernel
theorem dL_law_863 : decode cL_law 863 = .ok (.iadd, 1) := by decide +kernel
theorem dL_law_864 : decode cL_law 864 = .ok (.iaload, 1) := by decide +kernel
theorem dL_law_865 : decode cL_law 865 = .ok (.invokevirtual 113, 3) := by decide +kernel
theorem dL_law_868 : decode cL_law 868 = .ok (.pop, 1) := by decide +kernel
theorem dL_law_869 : decode cL_law 869 = .ok (.aload_n 2, 1) := by decide +kernel
theorem dL_law_870 : decode cL_law 870 = .ok (.aload_n 0, 1) := by decide +kernel
theorem dL_law_871 : decode cL_law 871 = .ok (.iload 4, 2) := by decide +kernel
theorem dL_law_873 : decode cL_law 873 = .ok (.iconst 1, 1) := by decide +kernel
theorem dL_law_874 : decode cL_law 874 = .ok (.iadd, 1) := by decide +kernel
theorem dL_law_875 : decode cL_law 875 = .ok (.iaload, 1) := by decide +kernel
theorem dL_law_876 : decode cL_law 876 = .ok (.aload_n 0, 1) := by decide +kernel
theorem dL_law_877 : decode cL_law 877 = .ok (.iload 4, 2) := by decide +kernel
theorem dL_law_879 : decode cL_law 879 = .ok (.iconst 2, 1) := by decide +kernel
theorem dL_law_880 : decode cL_law 880 = .ok (.iadd, 1) := by decide +kernel
theorem dL_law_881 : decode cL_law 881 = .ok (.iaload, 1) := by decide +kernel
theorem dL_law_882 : decode cL_law 882 = .ok (.aload_n 0, 1) := by decide +kernel
theorem dL_law_883 : decode cL_law 883 = .ok (.iload 4, 2) := by decide +kernel
theorem dL_law_885 : decode cL_law 885 = .ok (.iconst 3, 1) := by decide +kernel
theorem dL_law_886 : decode cL_law 886 = .ok (.iadd, 1) := by decide +kernel
theorem dL_law_887 : decode cL_law 887 = .ok (.iaload, 1) := by decide +kernel
theorem dL_law_888 : decode cL_law 888 = .ok (.invokevirtual 117, 3) := by decide +kernel
theorem dL_law_891 : decode cL_law 891 = .ok (.pop, 1) := by decide +kernel
theorem dL_law_892 : decode cL_law 892 = .ok (.goto 770, 3) := by decide +kernel
theorem dL_law_895 : decode cL_law 895 = .ok (.aload_n 1, 1) := by decide +kernel
theorem dL_law_896 : decode cL_law 896 = .ok (.aload_n 0, 1) := by decide +kernel
theorem dL_law_897 : decode cL_law 897 = .ok (.iload 4, 2) := by decide +kernel
theorem dL_law_899 : decode cL_law 899 = .ok (.iconst 1, 1) := by decide +kernel
theorem dL_law_900 : decode cL_law 900 = .ok (.iadd, 1) := by decide +kernel
theorem dL_law_901 : decode cL_law 901 = .ok (.iaload, 1) := by decide +kernel
theorem dL_law_902 : decode cL_law 902 = .ok (.aload_n 0, 1) := by decide +kernel
theorem dL_law_903 : decode cL_law 903 = .ok (.iload 4, 2) := by decide +kernel
theorem dL_law_905 : decode cL_law 905 = .ok (.iconst 2, 1) := by decide +kernel
theorem dL_law_906 : decode cL_law 906 = .ok (.iadd, 1) := by decide +kernel
theorem dL_law_907 : decode cL_law 907 = .ok (.iaload, 1) := by decide +kernel
theorem dL_law_908 : decode cL_law 908 = .ok (.aload_n 0, 1) := by decide +kernel
theorem dL_law_909 : decode cL_law 909 = .ok (.iload 4, 2) := by decide +kernel
theorem dL_law_911 : decode cL_law 911 = .ok (.iconst 3, 1) := by decide +kernel
theorem dL_law_912 : decode cL_law 912 = .ok (.iadd, 1) := by decide +kernel
theorem dL_law_913 : decode cL_law 913 = .ok (.iaload, 1) := by decide +kernel
theorem dL_law_914 : decode cL_law 914 = .ok (.invokevirtual 118, 3) := by decide +kernel
theorem dL_law_917 : decode cL_law 917 = .ok (.pop, 1) := by decide +kernel
theorem dL_law_918 : decode cL_law 918 = .ok (.aload_n 2, 1) := by decide +kernel
theorem dL_law_919 : decode cL_law 919 = .ok (.aload_n 0, 1) := by decide +kernel
theorem dL_law_920 : decode cL_law 920 = .ok (.iload 4, 2) := by decide +kernel
theorem dL_law_922 : decode cL_law 922 = .ok (.iconst 1, 1) := by decide +kernel
theorem dL_law_923 : decode cL_law 923 = .ok (.iadd, 1) := by decide +kernel
theorem dL_law_924 : decode cL_law 924 = .ok (.iaload, 1) := by decide +kernel
theorem dL_law_925 : decode cL_law 925 = .ok (.aload_n 0, 1) := by decide +kernel
theorem dL_law_926 : decode cL_law 926 = .ok (.iload 4, 2) := by decide +kernel
theorem dL_law_928 : decode cL_law 928 = .ok (.iconst 2, 1) := by decide +kernel
theorem dL_law_929 : decode cL_law 929 = .ok (.iadd, 1) := by decide +kernel
theorem dL_law_930 : decode cL_law 930 = .ok (.iaload, 1) := by decide +kernel
theorem dL_law_931 : decode cL_law 931 = .ok (.aload_n 0, 1) := by decide +kernel
theorem dL_law_932 : decode cL_law 932 = .ok (.iload 4, 2) := by decide +kernel
theorem dL_law_934 : decode cL_law 934 = .ok (.iconst 3, 1) := by decide +kernel
theorem dL_law_935 : decode cL_law 935 = .ok (.iadd, 1) := by decide +kernel
theorem dL_law_936 : decode cL_law 936 = .ok (.iaload, 1) := by decide +kernel
theorem dL_law_937 : decode cL_law 937 = .ok (.invokevirtual 121, 3) := by decide +kernel
theorem dL_law_940 : decode cL_law 940 = .ok (.pop, 1) := by decide +kernel
theorem dL_law_941 : decode cL_law 941 = .ok (.goto 721, 3) := by decide +kernel
theorem dL_law_944 : decode cL_law 944 = .ok (.aload_n 1, 1) := by decide +kernel
theorem dL_law_945 : decode cL_law 945 = .ok (.aload_n 0, 1) := by decide +kernel
theorem dL_law_946 : decode cL_law 946 = .ok (.iload 4, 2) := by decide +kernel
theorem dL_law_948 : decode cL_law 948 = .ok (.iconst 1, 1) := by decide +kernel
theorem dL_law_949 : decode cL_law 949 = .ok (.iadd, 1) := by decide +kernel
theorem dL_law_950 : decode cL_law 950 = .ok (.iaload, 1) := by decide +kernel
theorem dL_law_951 : decode cL_law 951 = .ok (.aload_n 0, 1) := by decide +kernel
theorem dL_law_952 : decode cL_law 952 = .ok (.iload 4, 2) := by decide +kernel
theorem dL_law_954 : decode cL_law 954 = .ok (.iconst 2, 1) := by decide +kernel
theorem dL_law_955 : decode cL_law 955 = .ok (.iadd, 1) := by decide +kernel
theorem dL_law_956 : decode cL_law 956 = .ok (.iaload, 1) := by decide +kernel
theorem dL_law_957 : decode cL_law 957 = .ok (.aload_n 0, 1) := by decide +kernel
theorem dL_law_958 : decode cL_law 958 = .ok (.iload 4, 2) := by decide +kernel
theorem dL_law_960 : decode cL_law 960 = .ok (.iconst 3, 1) := by decide +kernel
theorem dL_law_961 : decode cL_law 961 = .ok (.iadd, 1) := by decide +kernel
theorem dL_law_962 : decode cL_law 962 = .ok (.iaload, 1) := by decide +kernel
theorem dL_law_963 : decode cL_law 963 = .ok (.invokevirtual 122, 3) := by decide +kernel
theorem dL_law_966 : decode cL_law 966 = .ok (.pop, 1) := by decide +kernel
theorem dL_law_967 : decode cL_law 967 = .ok (.aload_n 2, 1) := by decide +kernel
theorem dL_law_968 : decode cL_law 968 = .ok (.aload_n 0, 1) := by decide +kernel
theorem dL_law_969 : decode cL_law 969 = .ok (.iload 4, 2) := by decide +kernel
theorem dL_law_971 : decode cL_law 971 = .ok (.iconst 1, 1) := by decide +kernel
theorem dL_law_972 : decode cL_law 972 = .ok (.iadd, 1) := by decide +kernel
theorem dL_law_973 : decode cL_law 973 = .ok (.iaload, 1) := by decide +kernel
theorem dL_law_974 : decode cL_law 974 = .ok (.aload_n 0, 1) := by decide +kernel
theorem dL_law_975 : decode cL_law 975 = .ok (.iload 4, 2) := by decide +kernel
theorem dL_law_977 : decode cL_law 977 = .ok (.iconst 2, 1) := by decide +kernel
theorem dL_law_978 : decode cL_law 978 = .ok (.iadd, 1) := by decide +kernel
theorem dL_law_979 : decode cL_law 979 = .ok (.iaload, 1) := by decide +kernel
theorem dL_law_980 : decode cL_law 980 = .ok (.aload_n 0, 1) := by decide +kernel
theorem dL_law_981 : decode cL_law 981 = .ok (.iload 4, 2) := by decide +kernel
theorem dL_law_983 : decode cL_law 983 = .ok (.iconst 3, 1) := by decide +kernel
theorem dL_law_984 : decode cL_law 984 = .ok (.iadd, 1) := by decide +kernel
theorem dL_law_985 : decode cL_law 985 = .ok (.iaload, 1) := by decide +kernel
theorem dL_law_986 : decode cL_law 986 = .ok (.invokevirtual 125, 3) := by decide +kernel
theorem dL_law_989 : decode cL_law 989 = .ok (.pop, 1) := by decide +kernel
theorem dL_law_990 : decode cL_law 990 = .ok (.goto 672, 3) := by decide +kernel
theorem dL_law_993 : decode cL_law 993 = .ok (.aload_n 1, 1) := by decide +kernel
theorem dL_law_994 : decode cL_law 994 = .ok (.aload_n 0, 1) := by decide +kernel
theorem dL_law_995 : decode cL_law 995 = .ok (.iload 4, 2) := by decide +kernel
theorem dL_law_997 : decode cL_law 997 = .ok (.iconst 1, 1) := by decide +kernel
theorem dL_law_998 : decode cL_law 998 = .ok (.iadd, 1) := by decide +kernel
theorem dL_law_999 : decode cL_law 999 = .ok (.iaload, 1) := by decide +kernel
theorem dL_law_1000 : decode cL_law 1000 = .ok (.aload_n 0, 1) := by decide +kernel
theorem dL_law_1001 : decode cL_law 1001 = .ok (.iload 4, 2) := by decide +kernel
theorem dL_law_1003 : decode cL_law 1003 = .ok (.iconst 2, 1) := by decide +kernel
theorem dL_law_1004 : decode cL_law 1004 = .ok (.iadd, 1) := by decide +kernel
theorem dL_law_1005 : decode cL_law 1005 = .ok (.iaload, 1) := by decide +kernel
theorem dL_law_1006 : decode cL_law 1006 = .ok (.aload_n 0, 1) := by decide +kernel
theorem dL_law_1007 : decode cL_law 1007 = .ok (.iload 4, 2) := by decide +kernel
theorem dL_law_1009 : decode cL_law 1009 = .ok (.iconst 3, 1) := by decide +kernel
theorem dL_law_1010 : decode cL_law 1010 = .ok (.iadd, 1) := by decide +kernel
theorem dL_law_1011 : decode cL_law 1011 = .ok (.iaload, 1) := by decide +kernel
theorem dL_law_1012 : decode cL_law 1012 = .ok (.invokevirtual 126, 3) := by decide +kernel
theorem dL_law_1015 : decode cL_law 1015 = .ok (.pop, 1) := by decide +kernel
theorem dL_law_1016 : decode cL_law 1016 = .ok (.aload_n 2, 1) := by decide +kernel
theorem dL_law_1017 : decode cL_law 1017 = .ok (.aload_n 0, 1) := by decide +kernel
theorem dL_law_1018 : decode cL_law 1018 = .ok (.iload 4, 2) := by decide +kernel
theorem dL_law_1020 : decode cL_law 1020 = .ok (.iconst 1, 1) := by decide +kernel
theorem dL_law_1021 : decode cL_law 1021 = .ok (.iadd, 1) := by decide +kernel
theorem dL_law_1022 : decode cL_law 1022 = .ok (.iaload, 1) := by decide +kernel
theorem dL_law_1023 : decode cL_law 1023 = .ok (.aload_n 0, 1) := by decide +kernel
theorem dL_law_1024 : decode cL_law 1024 = .ok (.iload 4, 2) := by decide +kernel
theorem dL_law_1026 : decode cL_law 1026 = .ok (.iconst 2, 1) := by decide +kernel
theorem dL_law_1027 : decode cL_law 1027 = .ok (.iadd, 1) := by decide +kernel
theorem dL_law_1028 : decode cL_law 1028 = .ok (.iaload, 1) := by decide +kernel
theorem dL_law_1029 : decode cL_law 1029 = .ok (.aload_n 0, 1) := by decide +kernel
theorem dL_law_1030 : decode cL_law 1030 = .ok (.iload 4, 2) := by decide +kernel
theorem dL_law_1032 : decode cL_law 1032 = .ok (.iconst 3, 1) := by decide +kernel
theorem dL_law_1033 : decode cL_law 1033 = .ok (.iadd, 1) := by decide +kernel
theorem dL_law_1034 : decode cL_law 1034 = .ok (.iaload, 1) := by decide +kernel
theorem dL_law_1035 : decode cL_law 1035 = .ok (.invokevirtual 129, 3) := by decide +kernel
theorem dL_law_1038 : decode cL_law 1038 = .ok (.pop, 1) := by decide +kernel
theorem dL_law_1039 : decode cL_law 1039 = .ok (.goto 623, 3) := by decide +kernel
theorem dL_law_1042 : decode cL_law 1042 = .ok (.aload_n 1, 1) := by decide +kernel
theorem dL_law_1043 : decode cL_law 1043 = .ok (.aload_n 0, 1) := by decide +kernel
theorem dL_law_1044 : decode cL_law 1044 = .ok (.iload 4, 2) := by decide +kernel
theorem dL_law_1046 : decode cL_law 1046 = .ok (.iconst 1, 1) := by decide +kernel
theorem dL_law_1047 : decode cL_law 1047 = .ok (.iadd, 1) := by decide +kernel
theorem dL_law_1048 : decode cL_law 1048 = .ok (.iaload, 1) := by decide +kernel
theorem dL_law_1049 : decode cL_law 1049 = .ok (.aload_n 0, 1) := by decide +kernel
theorem dL_law_1050 : decode cL_law 1050 = .ok (.iload 4, 2) := by decide +kernel
theorem dL_law_1052 : decode cL_law 1052 = .ok (.iconst 2, 1) := by decide +kernel
theorem dL_law_1053 : decode cL_law 1053 = .ok (.iadd, 1) := by decide +kernel
theorem dL_law_1054 : decode cL_law 1054 = .ok (.iaload, 1) := by decide +kernel
theorem dL_law_1055 : decode cL_law 1055 = .ok (.aload_n 0, 1) := by decide +kernel
theorem dL_law_1056 : decode cL_law 1056 = .ok (.iload 4, 2) := by decide +kernel
theorem dL_law_1058 : decode cL_law 1058 = .ok (.iconst 3, 1) := by decide +kernel
theorem dL_law_1059 : decode cL_law 1059 = .ok (.iadd, 1) := by decide +kernel
theorem dL_law_1060 : decode cL_law 1060 = .ok (.iaload, 1) := by decide +kernel
theorem dL_law_1061 : decode cL_law 1061 = .ok (.aload_n 0, 1) := by decide +kernel
theorem dL_law_1062 : decode cL_law 1062 = .ok (.iload 4, 2) := by decide +kernel
theorem dL_law_1064 : decode cL_law 1064 = .ok (.iconst 4, 1) := by decide +kernel
theorem dL_law_1065 : decode cL_law 1065 = .ok (.iadd, 1) := by decide +kernel
theorem dL_law_1066 : decode cL_law 1066 = .ok (.iaload, 1) := by decide +kernel
theorem dL_law_1067 : decode cL_law 1067 = .ok (.invokevirtual 130, 3) := by decide +kernel
theorem dL_law_1070 : decode cL_law 1070 = .ok (.pop, 1) := by decide +kernel
theorem dL_law_1071 : decode cL_law 1071 = .ok (.aload_n 2, 1) := by decide +kernel
theorem dL_law_1072 : decode cL_law 1072 = .ok (.aload_n 0, 1) := by decide +kernel
theorem dL_law_1073 : decode cL_law 1073 = .ok (.iload 4, 2) := by decide +kernel
theorem dL_law_1075 : decode cL_law 1075 = .ok (.iconst 1, 1) := by decide +kernel
theorem dL_law_1076 : decode cL_law 1076 = .ok (.iadd, 1) := by decide +kernel
theorem dL_law_1077 : decode cL_law 1077 = .ok (.iaload, 1) := by decide +kernel
theorem dL_law_1078 : decode cL_law 1078 = .ok (.aload_n 0, 1) := by decide +kernel
theorem dL_law_1079 : decode cL_law 1079 = .ok (.iload 4, 2) := by decide +kernel
theorem dL_law_1081 : decode cL_law 1081 = .ok (.iconst 2, 1) := by decide +kernel
theorem dL_law_1082 : decode cL_law 1082 = .ok (.iadd, 1) := by decide +kernel
theorem dL_law_1083 : decode cL_law 1083 = .ok (.iaload, 1) := by decide +kernel
theorem dL_law_1084 : decode cL_law 1084 = .ok (.aload_n 0, 1) := by decide +kernel
theorem dL_law_1085 : decode cL_law 1085 = .ok (.iload 4, 2) := by decide +kernel
theorem dL_law_1087 : decode cL_law 1087 = .ok (.iconst 3, 1) := by decide +kernel
theorem dL_law_1088 : decode cL_law 1088 = .ok (.iadd, 1) := by decide +kernel
theorem dL_law_1089 : decode cL_law 1089 = .ok (.iaload, 1) := by decide +kernel
theorem dL_law_1090 : decode cL_law 1090 = .ok (.aload_n 0, 1) := by decide +kernel
theorem dL_law_1091 : decode cL_law 1091 = .ok (.iload 4, 2) := by decide +kernel
theorem dL_law_1093 : decode cL_law 1093 = .ok (.iconst 4, 1) := by decide +kernel
theorem dL_law_1094 : decode cL_law 1094 = .ok (.iadd, 1) := by decide +kernel
theorem dL_law_1095 : decode cL_law 1095 = .ok (.iaload, 1) := by decide +kernel
theorem dL_law_1096 : decode cL_law 1096 = .ok (.invokevirtual 133, 3) := by decide +kernel
theorem dL_law_1099 : decode cL_law 1099 = .ok (.pop, 1) := by decide +kernel
theorem dL_law_1100 : decode cL_law 1100 = .ok (.goto 562, 3) := by decide +kernel
theorem dL_law_1103 : decode cL_law 1103 = .ok (.aload_n 1, 1) := by decide +kernel
theorem dL_law_1104 : decode cL_law 1104 = .ok (.aload_n 0, 1) := by decide +kernel
theorem dL_law_1105 : decode cL_law 1105 = .ok (.iload 4, 2) := by decide +kernel
theorem dL_law_1107 : decode cL_law 1107 = .ok (.iconst 1, 1) := by decide +kernel
theorem dL_law_1108 : decode cL_law 1108 = .ok (.iadd, 1) := by decide +kernel
theorem dL_law_1109 : decode cL_law 1109 = .ok (.iaload, 1) := by decide +kernel
theorem dL_law_1110 : decode cL_law 1110 = .ok (.invokevirtual 134, 3) := by decide +kernel
theorem dL_law_1113 : decode cL_law 1113 = .ok (.pop, 1) := by decide +kernel
theorem dL_law_1114 : decode cL_law 1114 = .ok (.aload_n 2, 1) := by decide +kernel
theorem dL_law_1115 : decode cL_law 1115 = .ok (.aload_n 0, 1) := by decide +kernel
theorem dL_law_1116 : decode cL_law 1116 = .ok (.iload 4, 2) := by decide +kernel
theorem dL_law_1118 : decode cL_law 1118 = .ok (.iconst 1, 1) := by decide +kernel
theorem dL_law_1119 : decode cL_law 1119 = .ok (.iadd, 1) := by decide +kernel
theorem dL_law_1120 : decode cL_law 1120 = .ok (.iaload, 1) := by decide +kernel
theorem dL_law_1121 : decode cL_law 1121 = .ok (.invokevirtual 137, 3) := by decide +kernel
theorem dL_law_1124 : decode cL_law 1124 = .ok (.pop, 1) := by decide +kernel
theorem dL_law_1125 : decode cL_law 1125 = .ok (.goto 537, 3) := by decide +kernel
theorem dL_law_1128 : decode cL_law 1128 = .ok (.aload_n 1, 1) := by decide +kernel
theorem dL_law_1129 : decode cL_law 1129 = .ok (.aload_n 0, 1) := by decide +kernel
theorem dL_law_1130 : decode cL_law 1130 = .ok (.iload 4, 2) := by decide +kernel
theorem dL_law_1132 : decode cL_law 1132 = .ok (.iconst 1, 1) := by decide +kernel
theorem dL_law_1133 : decode cL_law 1133 = .ok (.iadd, 1) := by decide +kernel
theorem dL_law_1134 : decode cL_law 1134 = .ok (.iaload, 1) := by decide +kernel
theorem dL_law_1135 : decode cL_law 1135 = .ok (.invokevirtual 138, 3) := by decide +kernel
theorem dL_law_1138 : decode cL_law 1138 = .ok (.pop, 1) := by decide +kernel
theorem dL_law_1139 : decode cL_law 1139 = .ok (.aload_n 2, 1) := by decide +kernel
theorem dL_law_1140 : decode cL_law 1140 = .ok (.aload_n 0, 1) := by decide +kernel
theorem dL_law_1141 : decode cL_law 1141 = .ok (.iload 4, 2) := by decide +kernel
theorem dL_law_1143 : decode cL_law 1143 = .ok (.iconst 1, 1) := by decide +kernel
theorem dL_law_1144 : decode cL_law 1144 = .ok (.iadd, 1) := by decide +kernel
theorem dL_law_1145 : decode cL_law 1145 = .ok (.iaload, 1) := by decide +kernel
theorem dL_law_1146 : decode cL_law 1146 = .ok (.invokevirtual 141, 3) := by decide +kernel
theorem dL_law_1149 : decode cL_law 1149 = .ok (.pop, 1) := by decide +kernel
theorem dL_law_1150 : decode cL_law 1150 = .ok (.goto 512, 3) := by decide +kernel
theorem dL_law_1153 : decode cL_law 1153 = .ok (.aload_n 1, 1) := by decide +kernel
theorem dL_law_1154 : decode cL_law 1154 = .ok (.aload_n 0, 1) := by decide +kernel
theorem dL_law_1155 : decode cL_law 1155 = .ok (.iload 4, 2) := by decide +kernel
theorem dL_law_1157 : decode cL_law 1157 = .ok (.iconst 1, 1) := by decide +kernel
theorem dL_law_1158 : decode cL_law 1158 = .ok (.iadd, 1) := by decide +kernel
theorem dL_law_1159 : decode cL_law 1159 = .ok (.iaload, 1) := by decide +kernel
theorem dL_law_1160 : decode cL_law 1160 = .ok (.aload_n 0, 1) := by decide +kernel
theorem dL_law_1161 : decode cL_law 1161 = .ok (.iload 4, 2) := by decide +kernel
theorem dL_law_1163 : decode cL_law 1163 = .ok (.iconst 2, 1) := by decide +kernel
theorem dL_law_1164 : decode cL_law 1164 = .ok (.iadd, 1) := by decide +kernel
theorem dL_law_1165 : decode cL_law 1165 = .ok (.iaload, 1) := by decide +kernel
theorem dL_law_1166 : decode cL_law 1166 = .ok (.invokevirtual 142, 3) := by decide +kernel
theorem dL_law_1169 : decode cL_law 1169 = .ok (.pop, 1) := by decide +kernel
theorem dL_law_1170 : decode cL_law 1170 = .ok (.aload_n 2, 1) := by decide +kernel
theorem dL_law_1171 : decode cL_law 1171 = .ok (.aload_n 0, 1) := by decide +kernel
theorem dL_law_1172 : decode cL_law 1172 = .ok (.iload 4, 2) := by decide +kernel
theorem dL_law_1174 : decode cL_law 1174 = .ok (.iconst 1, 1) := by decide +kernel
theorem dL_law_1175 : decode cL_law 1175 = .ok (.iadd, 1) := by decide +kernel
theorem dL_law_1176 : decode cL_law 1176 = .ok (.iaload, 1) := by decide +kernel
theorem dL_law_1177 : decode cL_law 1177 = .ok (.aload_n 0, 1) := by decide +kernel
theorem dL_law_1178 : decode cL_law 1178 = .ok (.iload 4, 2) := by decide +kernel
theorem dL_law_1180 : decode cL_law 1180 = .ok (.iconst 2, 1) := by decide +kernel
theorem dL_law_1181 : decode cL_law 1181 = .ok (.iadd, 1) := by decide +kernel
theorem dL_law_1182 : decode cL_law 1182 = .ok (.iaload, 1) := by decide +kernel
theorem dL_law_1183 : decode cL_law 1183 = .ok (.invokevirtual 145, 3) := by decide +kernel
theorem dL_law_1186 : decode cL_law 1186 = .ok (.pop, 1) := by decide +kernel
theorem dL_law_1187 : decode cL_law 1187 = .ok (.goto 475, 3) := by decide +kernel
theorem dL_law_1190 : decode cL_law 1190 = .ok (.aload_n 1, 1) := by decide +kernel
theorem dL_law_1191 : decode cL_law 1191 = .ok (.aload_n 0, 1) := by decide +kernel
theorem dL_law_1192 : decode cL_law 1192 = .ok (.iload 4, 2) := by decide +kernel
theorem dL_law_1194 : decode cL_law 1194 = .ok (.iconst 1, 1) := by decide +kernel
theorem dL_law_1195 : decode cL_law 1195 = .ok (.iadd, 1) := by decide +kernel
theorem dL_law_1196 : decode cL_law 1196 = .ok (.iaload, 1) := by decide +kernel
theorem dL_law_1197 : decode cL_law 1197 = .ok (.aload_n 0, 1) := by decide +kernel
theorem dL_law_1198 : decode cL_law 1198 = .ok (.iload 4, 2) := by decide +kernel
theorem dL_law_1200 : decode cL_law 1200 = .ok (.iconst 2, 1) := by decide +kernel
theorem dL_law_1201 : decode cL_law 1201 = .ok (.iadd, 1) := by decide +kernel
theorem dL_law_1202 : decode cL_law 1202 = .ok (.iaload, 1) := by decide +kernel
theorem dL_law_1203 : decode cL_law 1203 = .ok (.aload_n 0, 1) := by decide +kernel
theorem dL_law_1204 : decode cL_law 1204 = .ok (.iload 4, 2) := by decide +kernel
theorem dL_law_1206 : decode cL_law 1206 = .ok (.iconst 3, 1) := by decide +kernel
theorem dL_law_1207 : decode cL_law 1207 = .ok (.iadd, 1) := by decide +kernel
theorem dL_law_1208 : decode cL_law 1208 = .ok (.iaload, 1) := by decide +kernel
theorem dL_law_1209 : decode cL_law 1209 = .ok (.aload_n 0, 1) := by decide +kernel
theorem dL_law_1210 : decode cL_law 1210 = .ok (.iload 4, 2) := by decide +kernel
theorem dL_law_1212 : decode cL_law 1212 = .ok (.iconst 4, 1) := by decide +kernel
theorem dL_law_1213 : decode cL_law 1213 = .ok (.iadd, 1) := by decide +kernel
theorem dL_law_1214 : decode cL_law 1214 = .ok (.iaload, 1) := by decide +kernel
theorem dL_law_1215 : decode cL_law 1215 = .ok (.invokevirtual 146, 3) := by decide +kernel
theorem dL_law_1218 : decode cL_law 1218 = .ok (.pop, 1) := by decide +kernel
theorem dL_law_1219 : decode cL_law 1219 = .ok (.aload_n 2, 1) := by decide +kernel
theorem dL_law_1220 : decode cL_law 1220 = .ok (.aload_n 0, 1) := by decide +kernel
theorem dL_law_1221 : decode cL_law 1221 = .ok (.iload 4, 2) := by decide +kernel
theorem dL_law_1223 : decode cL_law 1223 = .ok (.iconst 1, 1) := by decide +kernel
theorem dL_law_1224 : decode cL_law 1224 = .ok (.iadd, 1) := by decide +kernel
theorem dL_law_1225 : decode cL_law 1225 = .ok (.iaload, 1) := by decide +kernel
theorem dL_law_1226 : decode cL_law 1226 = .ok (.aload_n 0, 1) := by decide +kernel
theorem dL_law_1227 : decode cL_law 1227 = .ok (.iload 4, 2) := by decide +kernel
theorem dL_law_1229 : decode cL_law 1229 = .ok (.iconst 2, 1) := by decide +kernel
theorem dL_law_1230 : decode cL_law 1230 = .ok (.iadd, 1) := by decide +kernel
theorem dL_law_1231 : decode cL_law 1231 = .ok (.iaload, 1) := by decide +kernel
theorem dL_law_1232 : decode cL_law 1232 = .ok (.aload_n 0, 1) := by decide +kernel
theorem dL_law_1233 : decode cL_law 1233 = .ok (.iload 4, 2) := by decide +kernel
theorem dL_law_1235 : decode cL_law 1235 = .ok (.iconst 3, 1) := by decide +kernel
theorem dL_law_1236 : decode cL_law 1236 = .ok (.iadd, 1) := by decide +kernel
theorem dL_law_1237 : decode cL_law 1237 = .ok (.iaload, 1) := by decide +kernel
theorem dL_law_1238 : decode cL_law 1238 = .ok (.aload_n 0, 1) := by decide +kernel
theorem dL_law_1239 : decode cL_law 1239 = .ok (.iload 4, 2) := by decide +kernel
theorem dL_law_1241 : decode cL_law 1241 = .ok (.iconst 4, 1) := by decide +kernel
theorem dL_law_1242 : decode cL_law 1242 = .ok (.iadd, 1) := by decide +kernel
theorem dL_law_1243 : decode cL_law 1243 = .ok (.iaload, 1) := by decide +kernel
theorem dL_law_1244 : decode cL_law 1244 = .ok (.invokevirtual 149, 3) := by decide +kernel
theorem dL_law_1247 : decode cL_law 1247 = .ok (.pop, 1) := by decide +kernel
theorem dL_law_1248 : decode cL_law 1248 = .ok (.goto 414, 3) := by decide +kernel
theorem dL_law_1251 : decode cL_law 1251 = .ok (.aload_n 1, 1) := by decide +kernel
theorem dL_law_1252 : decode cL_law 1252 = .ok (.aload_n 0, 1) := by decide +kernel
theorem dL_law_1253 : decode cL_law 1253 = .ok (.iload 4, 2) := by decide +kernel
theorem dL_law_1255 : decode cL_law 1255 = .ok (.iconst 1, 1) := by decide +kernel
theorem dL_law_1256 : decode cL_law 1256 = .ok (.iadd, 1) := by decide +kernel
theorem dL_law_1257 : decode cL_law 1257 = .ok (.iaload, 1) := by decide +kernel
theorem dL_law_1258 : decode cL_law 1258 = .ok (.aload_n 0, 1) := by decide +kernel
theorem dL_law_1259 : decode cL_law 1259 = .ok (.iload 4, 2) := by decide +kernel
theorem dL_law_1261 : decode cL_law 1261 = .ok (.iconst 2, 1) := by decide +kernel
theorem dL_law_1262 : decode cL_law 1262 = .ok (.iadd, 1) := by decide +kernel
theorem dL_law_1263 : decode cL_law 1263 = .ok (.iaload, 1) := by decide +kernel
theorem dL_law_1264 : decode cL_law 1264 = .ok (.aload_n 0, 1) := by decide +kernel
theorem dL_law_1265 : decode cL_law 1265 = .ok (.iload 4, 2) := by decide +kernel
theorem dL_law_1267 : decode cL_law 1267 = .ok (.iconst 3, 1) := by decide +kernel
theorem dL_law_1268 : decode cL_law 1268 = .ok (.iadd, 1) := by decide +kernel
theorem dL_law_1269 : decode cL_law 1269 = .ok (.iaload, 1) := by decide +kernel
theorem dL_law_1270 : decode cL_law 1270 = .ok (.aload_n 0, 1) := by decide +kernel
theorem dL_law_1271 : decode cL_law 1271 = .ok (.iload 4, 2) := by decide +kernel
theorem dL_law_1273 : decode cL_law 1273 = .ok (.iconst 4, 1) := by decide +kernel
theorem dL_law_1274 : decode cL_law 1274 = .ok (.iadd, 1) := by decide +kernel
theorem dL_law_1275 : decode cL_law 1275 = .ok (.iaload, 1) := by decide +kernel
theorem dL_law_1276 : decode cL_law 1276 = .ok (.aload_n 0, 1) := by decide +kernel
theorem dL_law_1277 : decode cL_law 1277 = .ok (.iload 4, 2) := by decide +kernel
theorem dL_law_1279 : decode cL_law 1279 = .ok (.iconst 5, 1) := by decide +kernel
theorem dL_law_1280 : decode cL_law 1280 = .ok (.iadd, 1) := by decide +kernel
theorem dL_law_1281 : decode cL_law 1281 = .ok (.iaload, 1) := by decide +kernel
theorem dL_law_1282 : decode cL_law 1282 = .ok (.invokevirtual 150, 3) := by decide +kernel
theorem dL_law_1285 : decode cL_law 1285 = .ok (.pop, 1) := by decide +kernel
theorem dL_law_1286 : decode cL_law 1286 = .ok (.aload_n 2, 1) := by decide +kernel
theorem dL_law_1287 : decode cL_law 1287 = .ok (.aload_n 0, 1) := by decide +kernel
theorem dL_law_1288 : decode cL_law 1288 = .ok (.iload 4, 2) := by decide +kernel
theorem dL_law_1290 : decode cL_law 1290 = .ok (.iconst 1, 1) := by decide +kernel
theorem dL_law_1291 : decode cL_law 1291 = .ok (.iadd, 1) := by decide +kernel
theorem dL_law_1292 : decode cL_law 1292 = .ok (.iaload, 1) := by decide +kernel
theorem dL_law_1293 : decode cL_law 1293 = .ok (.aload_n 0, 1) := by decide +kernel
theorem dL_law_1294 : decode cL_law 1294 = .ok (.iload 4, 2) := by decide +kernel
theorem dL_law_1296 : decode cL_law 1296 = .ok (.iconst 2, 1) := by decide +kernel
theorem dL_law_1297 : decode cL_law 1297 = .ok (.iadd, 1) := by decide +kernel
theorem dL_law_1298 : decode cL_law 1298 = .ok (.iaload, 1) := by decide +kernel
theorem dL_law_1299 : decode cL_law 1299 = .ok (.aload_n 0, 1) := by decide +kernel
theorem dL_law_1300 : decode cL_law 1300 = .ok (.iload 4, 2) := by decide +kernel
theorem dL_law_1302 : decode cL_law 1302 = .ok (.iconst 3, 1) := by decide +kernel
theorem dL_law_1303 : decode cL_law 1303 = .ok (.iadd, 1) := by decide +kernel
theorem dL_law_1304 : decode cL_law 1304 = .ok (.iaload, 1) := by decide +kernel
theorem dL_law_1305 : decode cL_law 1305 = .ok (.aload_n 0, 1) := by decide +kernel
theorem dL_law_1306 : decode cL_law 1306 = .ok (.iload 4, 2) := by decide +kernel
theorem dL_law_1308 : decode cL_law 1308 = .ok (.iconst 4, 1) := by decide +kernel
theorem dL_law_1309 : decode cL_law 1309 = .ok (.iadd, 1) := by decide +kernel
theorem dL_law_1310 : decode cL_law 1310 = .ok (.iaload, 1) := by decide +kernel
theorem dL_law_1311 : decode cL_law 1311 = .ok (.aload_n 0, 1) := by decide +kernel
theorem dL_law_1312 : decode cL_law 1312 = .ok (.iload 4, 2) := by decide +kernel
theorem dL_law_1314 : decode cL_law 1314 = .ok (.iconst 5, 1) := by decide +kernel
theorem dL_law_1315 : decode cL_law 1315 = .ok (.iadd, 1) := by decide +kernel
theorem dL_law_1316 : decode cL_law 1316 = .ok (.iaload, 1) := by decide +kernel
theorem dL_law_1317 : decode cL_law 1317 = .ok (.invokevirtual 153, 3) := by decide +kernel
theorem dL_law_1320 : decode cL_law 1320 = .ok (.pop, 1) := by decide +kernel
theorem dL_law_1321 : decode cL_law 1321 = .ok (.goto 341, 3) := by decide +kernel
theorem dL_law_1324 : decode cL_law 1324 = .ok (.aload_n 1, 1) := by decide +kernel
theorem dL_law_1325 : decode cL_law 1325 = .ok (.aload_n 0, 1) := by decide +kernel
theorem dL_law_1326 : decode cL_law 1326 = .ok (.iload 4, 2) := by decide +kernel
theorem dL_law_1328 : decode cL_law 1328 = .ok (.iconst 1, 1) := by decide +kernel
theorem dL_law_1329 : decode cL_law 1329 = .ok (.iadd, 1) := by decide +kernel
theorem dL_law_1330 : decode cL_law 1330 = .ok (.iaload, 1) := by decide +kernel
theorem dL_law_1331 : decode cL_law 1331 = .ok (.aload_n 0, 1) := by decide +kernel
theorem dL_law_1332 : decode cL_law 1332 = .ok (.iload 4, 2) := by decide +kernel
theorem dL_law_1334 : decode cL_law 1334 = .ok (.iconst 2, 1) := by decide +kernel
theorem dL_law_1335 : decode cL_law 1335 = .ok (.iadd, 1) := by decide +kernel
theorem dL_law_1336 : decode cL_law 1336 = .ok (.iaload, 1) := by decide +kernel
theorem dL_law_1337 : decode cL_law 1337 = .ok (.aload_n 0, 1) := by decide +kernel
theorem dL_law_1338 : decode cL_law 1338 = .ok (.iload 4, 2) := by decide +kernel
theorem dL_law_1340 : decode cL_law 1340 = .ok (.iconst 3, 1) := by decide +kernel
theorem dL_law_1341 : decode cL_law 1341 = .ok (.iadd, 1) := by decide +kernel
theorem dL_law_1342 : decode cL_law 1342 = .ok (.iaload, 1) := by decide +kernel
theorem dL_law_1343 : decode cL_law 1343 = .ok (.invokevirtual 154, 3) := by decide +kernel
theorem dL_law_1346 : decode cL_law 1346 = .ok (.pop, 1) := by decide +kernel
theorem dL_law_1347 : decode cL_law 1347 = .ok (.aload_n 2, 1) := by decide +kernel
theorem dL_law_1348 : decode cL_law 1348 = .ok (.aload_n 0, 1) := by decide +kernel
theorem dL_law_1349 : decode cL_law 1349 = .ok (.iload 4, 2) := by decide +kernel
theorem dL_law_1351 : decode cL_law 1351 = .ok (.iconst 1, 1) := by decide +kernel
theorem dL_law_1352 : decode cL_law 1352 = .ok (.iadd, 1) := by decide +kernel
theorem dL_law_1353 : decode cL_law 1353 = .ok (.iaload, 1) := by decide +kernel
theorem dL_law_1354 : decode cL_law 1354 = .ok (.aload_n 0, 1) := by decide +kernel
theorem dL_law_1355 : decode cL_law 1355 = .ok (.iload 4, 2) := by decide +kernel
theorem dL_law_1357 : decode cL_law 1357 = .ok (.iconst 2, 1) := by decide +kernel
theorem dL_law_1358 : decode cL_law 1358 = .ok (.iadd, 1) := by decide +kernel
theorem dL_law_1359 : decode cL_law 1359 = .ok (.iaload, 1) := by decide +kernel
theorem dL_law_1360 : decode cL_law 1360 = .ok (.aload_n 0, 1) := by decide +kernel
theorem dL_law_1361 : decode cL_law 1361 = .ok (.iload 4, 2) := by decide +kernel
theorem dL_law_1363 : decode cL_law 1363 = .ok (.iconst 3, 1) := by decide +kernel
theorem dL_law_1364 : decode cL_law 1364 = .ok (.iadd, 1) := by decide +kernel
theorem dL_law_1365 : decode cL_law 1365 = .ok (.iaload, 1) := by decide +kernel
theorem dL_law_1366 : decode cL_law 1366 = .ok (.invokevirtual 157, 3) := by decide +kernel
theorem dL_law_1369 : decode cL_law 1369 = .ok (.pop, 1) := by decide +kernel
theorem dL_law_1370 : decode cL_law 1370 = .ok (.goto 292, 3) := by decide +kernel
