theorem mw_42 : (Cond.selects RX12 yX12_readsPlace yX12_readsPlace) ∈ gx_G := gx_mem 42 (by decide +kernel) (by decide +kernel)
theorem mw_45 : (Cond.selects RX12 yX12_readsLetter yX12_readsLetter) ∈ gx_G := gx_mem 45 (by decide +kernel) (by decide +kernel)
theorem mw_1431 : (Cond.fieldLink RX12 38 "DownTheGutterModel" "readKind" "[I") ∈ gx_G := gx_mem 1431 (by decide +kernel) (by decide +kernel)
theorem mw_1432 : (Cond.fieldLink RX12 41 "DownTheGutterModel" "readGoes" "[I") ∈ gx_G := gx_mem 1432 (by decide +kernel) (by decide +kernel)
theorem mw_1433 : (Cond.fieldLink RX12 44 "DownTheGutterModel" "readSecond" "[I") ∈ gx_G := gx_mem 1433 (by decide +kernel) (by decide +kernel)
theorem mw_1434 : (Cond.fieldLink RX12 47 "DownTheGutterModel" "readNumber" "[I") ∈ gx_G := gx_mem 1434 (by decide +kernel) (by decide +kernel)
theorem mw_1435 : (Cond.fieldLink RX12 189 "DownTheGutterModel" "readMany" "I") ∈ gx_G := gx_mem 1435 (by decide +kernel) (by decide +kernel)
theorem mw_1615 : (Cond.methodLink RX12 207 yX12_readsPlace) ∈ gx_G := gx_mem 1615 (by decide +kernel) (by decide +kernel)
theorem mw_1617 : (Cond.instanceMethod yX12_readsPlace) ∈ gx_G := gx_mem 1617 (by decide +kernel) (by decide +kernel)
theorem mw_1618 : (Cond.code yX12_readsPlace cX12_readsPlace 7 (some .boolean)) ∈ gx_G := gx_mem 1618 (by decide +kernel) (by decide +kernel)
theorem mw_1652 : (Cond.methodLink RX12 194 yX12_readsLetter) ∈ gx_G := gx_mem 1652 (by decide +kernel) (by decide +kernel)
theorem mw_1654 : (Cond.instanceMethod yX12_readsLetter) ∈ gx_G := gx_mem 1654 (by decide +kernel) (by decide +kernel)
theorem mw_1655 : (Cond.code yX12_readsLetter cX12_readsLetter 2 (some .int)) ∈ gx_G := gx_mem 1655 (by decide +kernel) (by decide +kernel)
theorem mw_1658 : (Cond.methodLink RX12 199 yJ0_substring_b52d3) ∈ gx_G := gx_mem 1658 (by decide +kernel) (by decide +kernel)
theorem mw_1659 : (Cond.instanceMethod yJ0_substring_b52d3) ∈ gx_G := gx_mem 1659 (by decide +kernel) (by decide +kernel)
theorem mw_1660 : (Cond.selects RJ0 yJ0_substring_b52d3 yJ0_substring_b52d3) ∈ gx_G := gx_mem 1660 (by decide +kernel) (by decide +kernel)
theorem mw_1661 : (Cond.code yJ0_substring_b52d3 cJ0_substring_b52d3 2 (some (.object "java/lang/String"))) ∈ gx_G := gx_mem 1661 (by decide +kernel) (by decide +kernel)
theorem cw_X12_199 : gx_Wv RX12 199 yJ0_substring_b52d3 cJ0_substring_b52d3 2 (some (.object "java/lang/String")) 1 := ⟨⟨mw_1658, mw_1659, mw_1660, mw_103, mw_1661⟩, by decide +kernel⟩
theorem cw_X12_194 : gx_Wv RX12 194 yX12_readsLetter cX12_readsLetter 2 (some .int) 0 := ⟨⟨mw_1652, mw_1654, mw_45, mw_101, mw_1655⟩, by decide +kernel⟩
theorem cw_X12_207 : gx_Wv RX12 207 yX12_readsPlace cX12_readsPlace 7 (some .boolean) 0 := ⟨⟨mw_1615, mw_1617, mw_42, mw_101, mw_1618⟩, by decide +kernel⟩
theorem t_209 : gx_tb[209]? = some (.inr (0, 12, [])) := rfl
theorem t_210 : gx_tb[210]? = some (.inr (0, 12, [])) := rfl
theorem t_211 : gx_tb[211]? = some (.inr (0, 12, [])) := rfl
theorem t_212 : gx_tb[212]? = some (.inr (0, 12, [])) := rfl
theorem ss_9 : gx_ss[9]? = some (RX12, 192, "gdfrmik", [103, 100, 102, 114, 109, 105, 107]) := rfl
theorem ss_11 : gx_ss[11]? = some (RX12, 197, "0123456789", [48, 49, 50, 51, 52, 53, 54, 55, 56, 57]) := rfl
theorem dX12_readsPlace_0 : decode cX12_readsPlace 0 = .ok (.aload_n 0, 1) := by decide +kernel
theorem dX12_readsPlace_1 : decode cX12_readsPlace 1 = .ok (.getfield 189, 3) := by decide +kernel
theorem dX12_readsPlace_4 : decode cX12_readsPlace 4 = .ok (.istore_n 1, 1) := by decide +kernel
theorem dX12_readsPlace_5 : decode cX12_readsPlace 5 = .ok (.iload_n 1, 1) := by decide +kernel
theorem dX12_readsPlace_6 : decode cX12_readsPlace 6 = .ok (.bipush 12, 2) := by decide +kernel
theorem dX12_readsPlace_8 : decode cX12_readsPlace 8 = .ok (.if_icmp .ne 5, 3) := by decide +kernel
theorem dX12_readsPlace_11 : decode cX12_readsPlace 11 = .ok (.iconst 0, 1) := by decide +kernel
theorem dX12_readsPlace_12 : decode cX12_readsPlace 12 = .ok (.ireturn, 1) := by decide +kernel
theorem dX12_readsPlace_13 : decode cX12_readsPlace 13 = .ok (.aload_n 0, 1) := by decide +kernel
theorem dX12_readsPlace_14 : decode cX12_readsPlace 14 = .ok (.ldc 192, 2) := by decide +kernel
theorem dX12_readsPlace_16 : decode cX12_readsPlace 16 = .ok (.invokevirtual 183, 3) := by decide +kernel
theorem dX12_readsPlace_19 : decode cX12_readsPlace 19 = .ok (.istore_n 2, 1) := by decide +kernel
theorem dX12_readsPlace_20 : decode cX12_readsPlace 20 = .ok (.iload_n 2, 1) := by decide +kernel
theorem dX12_readsPlace_21 : decode cX12_readsPlace 21 = .ok (.ifCond .ge 5, 3) := by decide +kernel
theorem dX12_readsPlace_24 : decode cX12_readsPlace 24 = .ok (.iconst 0, 1) := by decide +kernel
theorem dX12_readsPlace_25 : decode cX12_readsPlace 25 = .ok (.ireturn, 1) := by decide +kernel
theorem dX12_readsPlace_26 : decode cX12_readsPlace 26 = .ok (.aload_n 0, 1) := by decide +kernel
theorem dX12_readsPlace_27 : decode cX12_readsPlace 27 = .ok (.getfield 38, 3) := by decide +kernel
theorem dX12_readsPlace_30 : decode cX12_readsPlace 30 = .ok (.iload_n 1, 1) := by decide +kernel
theorem dX12_readsPlace_31 : decode cX12_readsPlace 31 = .ok (.iload_n 2, 1) := by decide +kernel
theorem dX12_readsPlace_32 : decode cX12_readsPlace 32 = .ok (.iastore, 1) := by decide +kernel
theorem dX12_readsPlace_33 : decode cX12_readsPlace 33 = .ok (.aload_n 0, 1) := by decide +kernel
theorem dX12_readsPlace_34 : decode cX12_readsPlace 34 = .ok (.getfield 41, 3) := by decide +kernel
theorem dX12_readsPlace_37 : decode cX12_readsPlace 37 = .ok (.iload_n 1, 1) := by decide +kernel
theorem dX12_readsPlace_38 : decode cX12_readsPlace 38 = .ok (.iconst (-1), 1) := by decide +kernel
theorem dX12_readsPlace_39 : decode cX12_readsPlace 39 = .ok (.iastore, 1) := by decide +kernel
theorem dX12_readsPlace_40 : decode cX12_readsPlace 40 = .ok (.aload_n 0, 1) := by decide +kernel
theorem dX12_readsPlace_41 : decode cX12_readsPlace 41 = .ok (.getfield 44, 3) := by decide +kernel
theorem dX12_readsPlace_44 : decode cX12_readsPlace 44 = .ok (.iload_n 1, 1) := by decide +kernel
theorem dX12_readsPlace_45 : decode cX12_readsPlace 45 = .ok (.iconst (-1), 1) := by decide +kernel
theorem dX12_readsPlace_46 : decode cX12_readsPlace 46 = .ok (.iastore, 1) := by decide +kernel
theorem dX12_readsPlace_47 : decode cX12_readsPlace 47 = .ok (.aload_n 0, 1) := by decide +kernel
theorem dX12_readsPlace_48 : decode cX12_readsPlace 48 = .ok (.getfield 47, 3) := by decide +kernel
theorem dX12_readsPlace_51 : decode cX12_readsPlace 51 = .ok (.iload_n 1, 1) := by decide +kernel
theorem dX12_readsPlace_52 : decode cX12_readsPlace 52 = .ok (.iconst 0, 1) := by decide +kernel
theorem dX12_readsPlace_53 : decode cX12_readsPlace 53 = .ok (.iastore, 1) := by decide +kernel
theorem dX12_readsPlace_54 : decode cX12_readsPlace 54 = .ok (.aload_n 0, 1) := by decide +kernel
theorem dX12_readsPlace_55 : decode cX12_readsPlace 55 = .ok (.dup, 1) := by decide +kernel
theorem dX12_readsPlace_56 : decode cX12_readsPlace 56 = .ok (.getfield 189, 3) := by decide +kernel
theorem dX12_readsPlace_59 : decode cX12_readsPlace 59 = .ok (.iconst 1, 1) := by decide +kernel
theorem dX12_readsPlace_60 : decode cX12_readsPlace 60 = .ok (.iadd, 1) := by decide +kernel
theorem dX12_readsPlace_61 : decode cX12_readsPlace 61 = .ok (.putfield 189, 3) := by decide +kernel
theorem dX12_readsPlace_64 : decode cX12_readsPlace 64 = .ok (.iload_n 2, 1) := by decide +kernel
theorem dX12_readsPlace_65 : decode cX12_readsPlace 65 = .ok (.bipush 6, 2) := by decide +kernel
theorem dX12_readsPlace_67 : decode cX12_readsPlace 67 = .ok (.if_icmp .ne 5, 3) := by decide +kernel
theorem dX12_readsPlace_70 : decode cX12_readsPlace 70 = .ok (.iconst 1, 1) := by decide +kernel
theorem dX12_readsPlace_71 : decode cX12_readsPlace 71 = .ok (.ireturn, 1) := by decide +kernel
theorem dX12_readsPlace_72 : decode cX12_readsPlace 72 = .ok (.aload_n 0, 1) := by decide +kernel
theorem dX12_readsPlace_73 : decode cX12_readsPlace 73 = .ok (.getfield 41, 3) := by decide +kernel
theorem dX12_readsPlace_76 : decode cX12_readsPlace 76 = .ok (.iload_n 1, 1) := by decide +kernel
theorem dX12_readsPlace_77 : decode cX12_readsPlace 77 = .ok (.aload_n 0, 1) := by decide +kernel
theorem dX12_readsPlace_78 : decode cX12_readsPlace 78 = .ok (.invokevirtual 194, 3) := by decide +kernel
theorem dX12_readsPlace_81 : decode cX12_readsPlace 81 = .ok (.iastore, 1) := by decide +kernel
theorem dX12_readsPlace_82 : decode cX12_readsPlace 82 = .ok (.aload_n 0, 1) := by decide +kernel
theorem dX12_readsPlace_83 : decode cX12_readsPlace 83 = .ok (.getfield 41, 3) := by decide +kernel
theorem dX12_readsPlace_86 : decode cX12_readsPlace 86 = .ok (.iload_n 1, 1) := by decide +kernel
theorem dX12_readsPlace_87 : decode cX12_readsPlace 87 = .ok (.iaload, 1) := by decide +kernel
theorem dX12_readsPlace_88 : decode cX12_readsPlace 88 = .ok (.ifCond .lt 7, 3) := by decide +kernel
theorem dX12_readsPlace_91 : decode cX12_readsPlace 91 = .ok (.iload_n 2, 1) := by decide +kernel
theorem dX12_readsPlace_92 : decode cX12_readsPlace 92 = .ok (.ifCond .ne 18, 3) := by decide +kernel
theorem dX12_readsPlace_95 : decode cX12_readsPlace 95 = .ok (.aload_n 0, 1) := by decide +kernel
theorem dX12_readsPlace_96 : decode cX12_readsPlace 96 = .ok (.getfield 41, 3) := by decide +kernel
theorem dX12_readsPlace_99 : decode cX12_readsPlace 99 = .ok (.iload_n 1, 1) := by decide +kernel
theorem dX12_readsPlace_100 : decode cX12_readsPlace 100 = .ok (.iaload, 1) := by decide +kernel
theorem dX12_readsPlace_101 : decode cX12_readsPlace 101 = .ok (.ifCond .lt 7, 3) := by decide +kernel
theorem dX12_readsPlace_104 : decode cX12_readsPlace 104 = .ok (.iconst 1, 1) := by decide +kernel
theorem dX12_readsPlace_105 : decode cX12_readsPlace 105 = .ok (.goto 4, 3) := by decide +kernel
theorem dX12_readsPlace_108 : decode cX12_readsPlace 108 = .ok (.iconst 0, 1) := by decide +kernel
theorem dX12_readsPlace_109 : decode cX12_readsPlace 109 = .ok (.ireturn, 1) := by decide +kernel
theorem dX12_readsPlace_110 : decode cX12_readsPlace 110 = .ok (.iload_n 2, 1) := by decide +kernel
theorem dX12_readsPlace_111 : decode cX12_readsPlace 111 = .ok (.iconst 1, 1) := by decide +kernel
theorem dX12_readsPlace_112 : decode cX12_readsPlace 112 = .ok (.if_icmp .ne 28, 3) := by decide +kernel
theorem dX12_readsPlace_115 : decode cX12_readsPlace 115 = .ok (.aload_n 0, 1) := by decide +kernel
theorem dX12_readsPlace_116 : decode cX12_readsPlace 116 = .ok (.getfield 44, 3) := by decide +kernel
theorem dX12_readsPlace_119 : decode cX12_readsPlace 119 = .ok (.iload_n 1, 1) := by decide +kernel
theorem dX12_readsPlace_120 : decode cX12_readsPlace 120 = .ok (.aload_n 0, 1) := by decide +kernel
theorem dX12_readsPlace_121 : decode cX12_readsPlace 121 = .ok (.invokevirtual 194, 3) := by decide +kernel
theorem dX12_readsPlace_124 : decode cX12_readsPlace 124 = .ok (.iastore, 1) := by decide +kernel
theorem dX12_readsPlace_125 : decode cX12_readsPlace 125 = .ok (.aload_n 0, 1) := by decide +kernel
theorem dX12_readsPlace_126 : decode cX12_readsPlace 126 = .ok (.getfield 44, 3) := by decide +kernel
theorem dX12_readsPlace_129 : decode cX12_readsPlace 129 = .ok (.iload_n 1, 1) := by decide +kernel
theorem dX12_readsPlace_130 : decode cX12_readsPlace 130 = .ok (.iaload, 1) := by decide +kernel
theorem dX12_readsPlace_131 : decode cX12_readsPlace 131 = .ok (.ifCond .lt 7, 3) := by decide +kernel
theorem dX12_readsPlace_134 : decode cX12_readsPlace 134 = .ok (.iconst 1, 1) := by decide +kernel
theorem dX12_readsPlace_135 : decode cX12_readsPlace 135 = .ok (.goto 4, 3) := by decide +kernel
theorem dX12_readsPlace_138 : decode cX12_readsPlace 138 = .ok (.iconst 0, 1) := by decide +kernel
theorem dX12_readsPlace_139 : decode cX12_readsPlace 139 = .ok (.ireturn, 1) := by decide +kernel
theorem dX12_readsPlace_140 : decode cX12_readsPlace 140 = .ok (.ldc 197, 2) := by decide +kernel
theorem dX12_readsPlace_142 : decode cX12_readsPlace 142 = .ok (.astore_n 3, 1) := by decide +kernel
theorem dX12_readsPlace_143 : decode cX12_readsPlace 143 = .ok (.iload_n 2, 1) := by decide +kernel
theorem dX12_readsPlace_144 : decode cX12_readsPlace 144 = .ok (.iconst 4, 1) := by decide +kernel
theorem dX12_readsPlace_145 : decode cX12_readsPlace 145 = .ok (.if_icmp .ne 7, 3) := by decide +kernel
theorem dX12_readsPlace_148 : decode cX12_readsPlace 148 = .ok (.iconst 0, 1) := by decide +kernel
theorem dX12_readsPlace_149 : decode cX12_readsPlace 149 = .ok (.goto 13, 3) := by decide +kernel
theorem dX12_readsPlace_152 : decode cX12_readsPlace 152 = .ok (.iload_n 2, 1) := by decide +kernel
theorem dX12_readsPlace_153 : decode cX12_readsPlace 153 = .ok (.iconst 5, 1) := by decide +kernel
theorem dX12_readsPlace_154 : decode cX12_readsPlace 154 = .ok (.if_icmp .ne 7, 3) := by decide +kernel
theorem dX12_readsPlace_157 : decode cX12_readsPlace 157 = .ok (.iconst 2, 1) := by decide +kernel
theorem dX12_readsPlace_158 : decode cX12_readsPlace 158 = .ok (.goto 4, 3) := by decide +kernel
theorem dX12_readsPlace_161 : decode cX12_readsPlace 161 = .ok (.iconst 1, 1) := by decide +kernel
theorem dX12_readsPlace_162 : decode cX12_readsPlace 162 = .ok (.istore 4, 2) := by decide +kernel
theorem dX12_readsPlace_164 : decode cX12_readsPlace 164 = .ok (.aload_n 0, 1) := by decide +kernel
theorem dX12_readsPlace_165 : decode cX12_readsPlace 165 = .ok (.aload_n 3, 1) := by decide +kernel
theorem dX12_readsPlace_166 : decode cX12_readsPlace 166 = .ok (.iload 4, 2) := by decide +kernel
theorem dX12_readsPlace_168 : decode cX12_readsPlace 168 = .ok (.invokevirtual 199, 3) := by decide +kernel
theorem dX12_readsPlace_171 : decode cX12_readsPlace 171 = .ok (.invokevirtual 183, 3) := by decide +kernel
theorem dX12_readsPlace_174 : decode cX12_readsPlace 174 = .ok (.istore 5, 2) := by decide +kernel
theorem dX12_readsPlace_176 : decode cX12_readsPlace 176 = .ok (.iload 5, 2) := by decide +kernel
theorem dX12_readsPlace_178 : decode cX12_readsPlace 178 = .ok (.ifCond .ge 5, 3) := by decide +kernel
theorem dX12_readsPlace_181 : decode cX12_readsPlace 181 = .ok (.iconst 0, 1) := by decide +kernel
theorem dX12_readsPlace_182 : decode cX12_readsPlace 182 = .ok (.ireturn, 1) := by decide +kernel
theorem dX12_readsPlace_183 : decode cX12_readsPlace 183 = .ok (.aload_n 0, 1) := by decide +kernel
theorem dX12_readsPlace_184 : decode cX12_readsPlace 184 = .ok (.getfield 47, 3) := by decide +kernel
theorem dX12_readsPlace_187 : decode cX12_readsPlace 187 = .ok (.iload_n 1, 1) := by decide +kernel
theorem dX12_readsPlace_188 : decode cX12_readsPlace 188 = .ok (.iload 5, 2) := by decide +kernel
theorem dX12_readsPlace_190 : decode cX12_readsPlace 190 = .ok (.iload 4, 2) := by decide +kernel
theorem dX12_readsPlace_192 : decode cX12_readsPlace 192 = .ok (.iadd, 1) := by decide +kernel
theorem dX12_readsPlace_193 : decode cX12_readsPlace 193 = .ok (.iastore, 1) := by decide +kernel
theorem dX12_readsPlace_194 : decode cX12_readsPlace 194 = .ok (.iload_n 2, 1) := by decide +kernel
theorem dX12_readsPlace_195 : decode cX12_readsPlace 195 = .ok (.iconst 4, 1) := by decide +kernel
theorem dX12_readsPlace_196 : decode cX12_readsPlace 196 = .ok (.if_icmp .ne 39, 3) := by decide +kernel
theorem dX12_readsPlace_199 : decode cX12_readsPlace 199 = .ok (.aload_n 0, 1) := by decide +kernel
theorem dX12_readsPlace_200 : decode cX12_readsPlace 200 = .ok (.aload_n 3, 1) := by decide +kernel
theorem dX12_readsPlace_201 : decode cX12_readsPlace 201 = .ok (.iload 5, 2) := by decide +kernel
theorem dX12_readsPlace_203 : decode cX12_readsPlace 203 = .ok (.invokevirtual 199, 3) := by decide +kernel
theorem dX12_readsPlace_206 : decode cX12_readsPlace 206 = .ok (.invokevirtual 183, 3) := by decide +kernel
theorem dX12_readsPlace_209 : decode cX12_readsPlace 209 = .ok (.istore 6, 2) := by decide +kernel
theorem dX12_readsPlace_211 : decode cX12_readsPlace 211 = .ok (.iload 6, 2) := by decide +kernel
theorem dX12_readsPlace_213 : decode cX12_readsPlace 213 = .ok (.ifCond .ge 5, 3) := by decide +kernel
theorem dX12_readsPlace_216 : decode cX12_readsPlace 216 = .ok (.iconst 0, 1) := by decide +kernel
theorem dX12_readsPlace_217 : decode cX12_readsPlace 217 = .ok (.ireturn, 1) := by decide +kernel
theorem dX12_readsPlace_218 : decode cX12_readsPlace 218 = .ok (.aload_n 0, 1) := by decide +kernel
theorem dX12_readsPlace_219 : decode cX12_readsPlace 219 = .ok (.getfield 47, 3) := by decide +kernel
theorem dX12_readsPlace_222 : decode cX12_readsPlace 222 = .ok (.iload_n 1, 1) := by decide +kernel
theorem dX12_readsPlace_223 : decode cX12_readsPlace 223 = .ok (.bipush 10, 2) := by decide +kernel
theorem dX12_readsPlace_225 : decode cX12_readsPlace 225 = .ok (.iload 5, 2) := by decide +kernel
theorem dX12_readsPlace_227 : decode cX12_readsPlace 227 = .ok (.imul, 1) := by decide +kernel
theorem dX12_readsPlace_228 : decode cX12_readsPlace 228 = .ok (.iload 5, 2) := by decide +kernel
theorem dX12_readsPlace_230 : decode cX12_readsPlace 230 = .ok (.iadd, 1) := by decide +kernel
theorem dX12_readsPlace_231 : decode cX12_readsPlace 231 = .ok (.iload 6, 2) := by decide +kernel
theorem dX12_readsPlace_233 : decode cX12_readsPlace 233 = .ok (.iadd, 1) := by decide +kernel
theorem dX12_readsPlace_234 : decode cX12_readsPlace 234 = .ok (.iastore, 1) := by decide +kernel
theorem dX12_readsPlace_235 : decode cX12_readsPlace 235 = .ok (.iconst 1, 1) := by decide +kernel
theorem dX12_readsPlace_236 : decode cX12_readsPlace 236 = .ok (.ireturn, 1) := by decide +kernel
theorem dX12_town_0 : decode cX12_town 0 = .ok (.aload_n 0, 1) := by decide +kernel
theorem dX12_town_1 : decode cX12_town 1 = .ok (.iconst 0, 1) := by decide +kernel
theorem dX12_town_2 : decode cX12_town 2 = .ok (.putfield 111, 3) := by decide +kernel
theorem dX12_town_5 : decode cX12_town 5 = .ok (.aload_n 0, 1) := by decide +kernel
theorem dX12_town_6 : decode cX12_town 6 = .ok (.bipush 76, 2) := by decide +kernel
theorem dX12_town_8 : decode cX12_town 8 = .ok (.invokevirtual 203, 3) := by decide +kernel
theorem dX12_town_11 : decode cX12_town 11 = .ok (.istore_n 1, 1) := by decide +kernel
theorem dX12_town_12 : decode cX12_town 12 = .ok (.aload_n 0, 1) := by decide +kernel
theorem dX12_town_13 : decode cX12_town 13 = .ok (.iconst 0, 1) := by decide +kernel
theorem dX12_town_14 : decode cX12_town 14 = .ok (.putfield 189, 3) := by decide +kernel
theorem dX12_town_17 : decode cX12_town 17 = .ok (.aload_n 0, 1) := by decide +kernel
theorem dX12_town_18 : decode cX12_town 18 = .ok (.iconst 0, 1) := by decide +kernel
theorem dX12_town_19 : decode cX12_town 19 = .ok (.putfield 186, 3) := by decide +kernel
theorem dX12_town_22 : decode cX12_town 22 = .ok (.iconst 1, 1) := by decide +kernel
theorem dX12_town_23 : decode cX12_town 23 = .ok (.istore_n 2, 1) := by decide +kernel
theorem dX12_town_24 : decode cX12_town 24 = .ok (.iload_n 1, 1) := by decide +kernel
theorem dX12_town_25 : decode cX12_town 25 = .ok (.ifCond .le 7, 3) := by decide +kernel
theorem dX12_town_28 : decode cX12_town 28 = .ok (.iconst 1, 1) := by decide +kernel
theorem dX12_town_29 : decode cX12_town 29 = .ok (.goto 4, 3) := by decide +kernel
theorem dX12_town_32 : decode cX12_town 32 = .ok (.iconst 0, 1) := by decide +kernel
theorem dX12_town_33 : decode cX12_town 33 = .ok (.istore_n 3, 1) := by decide +kernel
theorem dX12_town_34 : decode cX12_town 34 = .ok (.iload_n 3, 1) := by decide +kernel
theorem dX12_town_35 : decode cX12_town 35 = .ok (.ifCond .eq 30, 3) := by decide +kernel
theorem dX12_town_38 : decode cX12_town 38 = .ok (.aload_n 0, 1) := by decide +kernel
theorem dX12_town_39 : decode cX12_town 39 = .ok (.invokevirtual 207, 3) := by decide +kernel
theorem dX12_town_42 : decode cX12_town 42 = .ok (.istore_n 2, 1) := by decide +kernel
theorem dX12_town_43 : decode cX12_town 43 = .ok (.iload_n 2, 1) := by decide +kernel
theorem dX12_town_44 : decode cX12_town 44 = .ok (.ifCond .eq 16, 3) := by decide +kernel
theorem dX12_town_47 : decode cX12_town 47 = .ok (.aload_n 0, 1) := by decide +kernel
theorem dX12_town_48 : decode cX12_town 48 = .ok (.bipush 59, 2) := by decide +kernel
theorem dX12_town_50 : decode cX12_town 50 = .ok (.invokevirtual 210, 3) := by decide +kernel
theorem dX12_town_53 : decode cX12_town 53 = .ok (.ifCond .eq 7, 3) := by decide +kernel
theorem dX12_town_56 : decode cX12_town 56 = .ok (.iconst 1, 1) := by decide +kernel
theorem dX12_town_57 : decode cX12_town 57 = .ok (.goto 4, 3) := by decide +kernel
theorem dX12_town_60 : decode cX12_town 60 = .ok (.iconst 0, 1) := by decide +kernel
theorem dX12_town_61 : decode cX12_town 61 = .ok (.istore_n 3, 1) := by decide +kernel
theorem dX12_town_62 : decode cX12_town 62 = .ok (.goto (-28), 3) := by decide +kernel
theorem dX12_town_65 : decode cX12_town 65 = .ok (.aload_n 0, 1) := by decide +kernel
theorem dX12_town_66 : decode cX12_town 66 = .ok (.iload_n 1, 1) := by decide +kernel
theorem dX12_town_67 : decode cX12_town 67 = .ok (.bipush 76, 2) := by decide +kernel
theorem dX12_town_69 : decode cX12_town 69 = .ok (.iload_n 2, 1) := by decide +kernel
theorem dX12_town_70 : decode cX12_town 70 = .ok (.invokevirtual 213, 3) := by decide +kernel
theorem dX12_town_73 : decode cX12_town 73 = .ok (.istore 4, 2) := by decide +kernel
theorem dX12_town_75 : decode cX12_town 75 = .ok (.iload 4, 2) := by decide +kernel
theorem dX12_town_77 : decode cX12_town 77 = .ok (.ifCond .ge 6, 3) := by decide +kernel
theorem dX12_town_80 : decode cX12_town 80 = .ok (.iload 4, 2) := by decide +kernel
theorem dX12_town_82 : decode cX12_town 82 = .ok (.ireturn, 1) := by decide +kernel
theorem dX12_town_83 : decode cX12_town 83 = .ok (.iconst 0, 1) := by decide +kernel
theorem dX12_town_84 : decode cX12_town 84 = .ok (.istore 5, 2) := by decide +kernel
theorem dX12_town_86 : decode cX12_town 86 = .ok (.iload 5, 2) := by decide +kernel
theorem dX12_town_88 : decode cX12_town 88 = .ok (.aload_n 0, 1) := by decide +kernel
theorem dX12_town_89 : decode cX12_town 89 = .ok (.getfield 186, 3) := by decide +kernel
theorem dX12_town_92 : decode cX12_town 92 = .ok (.if_icmp .ge 33, 3) := by decide +kernel
theorem dX12_town_95 : decode cX12_town 95 = .ok (.aload_n 0, 1) := by decide +kernel
theorem dX12_town_96 : decode cX12_town 96 = .ok (.getfield 50, 3) := by decide +kernel
theorem dX12_town_99 : decode cX12_town 99 = .ok (.iload 5, 2) := by decide +kernel
theorem dX12_town_101 : decode cX12_town 101 = .ok (.iaload, 1) := by decide +kernel
theorem dX12_town_102 : decode cX12_town 102 = .ok (.aload_n 0, 1) := by decide +kernel
theorem dX12_town_103 : decode cX12_town 103 = .ok (.getfield 189, 3) := by decide +kernel
theorem dX12_town_106 : decode cX12_town 106 = .ok (.if_icmp .lt 13, 3) := by decide +kernel
theorem dX12_town_109 : decode cX12_town 109 = .ok (.iconst (-1), 1) := by decide +kernel
theorem dX12_town_110 : decode cX12_town 110 = .ok (.aload_n 0, 1) := by decide +kernel
theorem dX12_town_111 : decode cX12_town 111 = .ok (.getfield 53, 3) := by decide +kernel
theorem dX12_town_114 : decode cX12_town 114 = .ok (.iload 5, 2) := by decide +kernel
theorem dX12_town_116 : decode cX12_town 116 = .ok (.iaload, 1) := by decide +kernel
theorem dX12_town_117 : decode cX12_town 117 = .ok (.isub, 1) := by decide +kernel
theorem dX12_town_118 : decode cX12_town 118 = .ok (.ireturn, 1) := by decide +kernel
theorem dX12_town_119 : decode cX12_town 119 = .ok (.iinc 5 1, 3) := by decide +kernel
theorem dX12_town_122 : decode cX12_town 122 = .ok (.goto (-36), 3) := by decide +kernel
theorem dX12_town_125 : decode cX12_town 125 = .ok (.aload_n 0, 1) := by decide +kernel
theorem dX12_town_126 : decode cX12_town 126 = .ok (.aload_n 0, 1) := by decide +kernel
theorem dX12_town_127 : decode cX12_town 127 = .ok (.getfield 189, 3) := by decide +kernel
theorem dX12_town_130 : decode cX12_town 130 = .ok (.putfield 126, 3) := by decide +kernel
theorem dX12_town_133 : decode cX12_town 133 = .ok (.iconst 0, 1) := by decide +kernel
theorem dX12_town_134 : decode cX12_town 134 = .ok (.istore 5, 2) := by decide +kernel
theorem dX12_town_136 : decode cX12_town 136 = .ok (.iload 5, 2) := by decide +kernel
theorem dX12_town_138 : decode cX12_town 138 = .ok (.aload_n 0, 1) := by decide +kernel
theorem dX12_town_139 : decode cX12_town 139 = .ok (.getfield 126, 3) := by decide +kernel
theorem dX12_town_142 : decode cX12_town 142 = .ok (.if_icmp .ge 65, 3) := by decide +kernel
theorem dX12_town_145 : decode cX12_town 145 = .ok (.aload_n 0, 1) := by decide +kernel
theorem dX12_town_146 : decode cX12_town 146 = .ok (.getfield 13, 3) := by decide +kernel
theorem dX12_town_149 : decode cX12_town 149 = .ok (.iload 5, 2) := by decide +kernel
theorem dX12_town_151 : decode cX12_town 151 = .ok (.aload_n 0, 1) := by decide +kernel
theorem dX12_town_152 : decode cX12_town 152 = .ok (.getfield 38, 3) := by decide +kernel
theorem dX12_town_155 : decode cX12_town 155 = .ok (.iload 5, 2) := by decide +kernel
theorem dX12_town_157 : decode cX12_town 157 = .ok (.iaload, 1) := by decide +kernel
theorem dX12_town_158 : decode cX12_town 158 = .ok (.iastore, 1) := by decide +kernel
theorem dX12_town_159 : decode cX12_town 159 = .ok (.aload_n 0, 1) := by decide +kernel
theorem dX12_town_160 : decode cX12_town 160 = .ok (.getfield 17, 3) := by decide +kernel
theorem dX12_town_163 : decode cX12_town 163 = .ok (.iload 5, 2) := by decide +kernel
theorem dX12_town_165 : decode cX12_town 165 = .ok (.aload_n 0, 1) := by decide +kernel
theorem dX12_town_166 : decode cX12_town 166 = .ok (.getfield 41, 3) := by decide +kernel
theorem dX12_town_169 : decode cX12_town 169 = .ok (.iload 5, 2) := by decide +kernel
theorem dX12_town_171 : decode cX12_town 171 = .ok (.iaload, 1) := by decide +kernel
theorem dX12_town_172 : decode cX12_town 172 = .ok (.iastore, 1) := by decide +kernel
theorem dX12_town_173 : decode cX12_town 173 = .ok (.aload_n 0, 1) := by decide +kernel
theorem dX12_town_174 : decode cX12_town 174 = .ok (.getfield 20, 3) := by decide +kernel
theorem dX12_town_177 : decode cX12_town 177 = .ok (.iload 5, 2) := by decide +kernel
theorem dX12_town_179 : decode cX12_town 179 = .ok (.aload_n 0, 1) := by decide +kernel
theorem dX12_town_180 : decode cX12_town 180 = .ok (.getfield 44, 3) := by decide +kernel
theorem dX12_town_183 : decode cX12_town 183 = .ok (.iload 5, 2) := by decide +kernel
theorem dX12_town_185 : decode cX12_town 185 = .ok (.iaload, 1) := by decide +kernel
theorem dX12_town_186 : decode cX12_town 186 = .ok (.iastore, 1) := by decide +kernel
theorem dX12_town_187 : decode cX12_town 187 = .ok (.aload_n 0, 1) := by decide +kernel
theorem dX12_town_188 : decode cX12_town 188 = .ok (.getfield 23, 3) := by decide +kernel
theorem dX12_town_191 : decode cX12_town 191 = .ok (.iload 5, 2) := by decide +kernel
theorem dX12_town_193 : decode cX12_town 193 = .ok (.aload_n 0, 1) := by decide +kernel
theorem dX12_town_194 : decode cX12_town 194 = .ok (.getfield 47, 3) := by decide +kernel
theorem dX12_town_197 : decode cX12_town 197 = .ok (.iload 5, 2) := by decide +kernel
theorem dX12_town_199 : decode cX12_town 199 = .ok (.iaload, 1) := by decide +kernel
theorem dX12_town_200 : decode cX12_town 200 = .ok (.iastore, 1) := by decide +kernel
theorem dX12_town_201 : decode cX12_town 201 = .ok (.iinc 5 1, 3) := by decide +kernel
theorem dX12_town_204 : decode cX12_town 204 = .ok (.goto (-68), 3) := by decide +kernel
theorem dX12_town_207 : decode cX12_town 207 = .ok (.iconst 0, 1) := by decide +kernel
theorem dX12_town_208 : decode cX12_town 208 = .ok (.istore 5, 2) := by decide +kernel
theorem dX12_town_210 : decode cX12_town 210 = .ok (.iload 5, 2) := by decide +kernel
theorem dX12_town_212 : decode cX12_town 212 = .ok (.bipush 45, 2) := by decide +kernel
theorem dX12_town_214 : decode cX12_town 214 = .ok (.if_icmp .ge 17, 3) := by decide +kernel
theorem dX12_town_217 : decode cX12_town 217 = .ok (.aload_n 0, 1) := by decide +kernel
theorem dX12_town_218 : decode cX12_town 218 = .ok (.getfield 29, 3) := by decide +kernel
theorem dX12_town_221 : decode cX12_town 221 = .ok (.iload 5, 2) := by decide +kernel
theorem dX12_town_223 : decode cX12_town 223 = .ok (.iconst 0, 1) := by decide +kernel
theorem dX12_town_224 : decode cX12_town 224 = .ok (.iastore, 1) := by decide +kernel
theorem dX12_town_225 : decode cX12_town 225 = .ok (.iinc 5 1, 3) := by decide +kernel
theorem dX12_town_228 : decode cX12_town 228 = .ok (.goto (-18), 3) := by decide +kernel
theorem dX12_town_231 : decode cX12_town 231 = .ok (.aload_n 0, 1) := by decide +kernel
theorem dX12_town_232 : decode cX12_town 232 = .ok (.iconst 0, 1) := by decide +kernel
theorem dX12_town_233 : decode cX12_town 233 = .ok (.putfield 217, 3) := by decide +kernel
theorem dX12_town_236 : decode cX12_town 236 = .ok (.aload_n 0, 1) := by decide +kernel
theorem dX12_town_237 : decode cX12_town 237 = .ok (.iconst 0, 1) := by decide +kernel
theorem dX12_town_238 : decode cX12_town 238 = .ok (.putfield 220, 3) := by decide +kernel
theorem dX12_town_241 : decode cX12_town 241 = .ok (.iconst 0, 1) := by decide +kernel
theorem dX12_town_242 : decode cX12_town 242 = .ok (.istore 5, 2) := by decide +kernel
theorem dX12_town_244 : decode cX12_town 244 = .ok (.iload 5, 2) := by decide +kernel
theorem dX12_town_246 : decode cX12_town 246 = .ok (.iconst 3, 1) := by decide +kernel
theorem dX12_town_247 : decode cX12_town 247 = .ok (.if_icmp .ge 17, 3) := by decide +kernel
theorem dX12_town_250 : decode cX12_town 250 = .ok (.aload_n 0, 1) := by decide +kernel
theorem dX12_town_251 : decode cX12_town 251 = .ok (.getfield 105, 3) := by decide +kernel
theorem dX12_town_254 : decode cX12_town 254 = .ok (.iload 5, 2) := by decide +kernel
theorem dX12_town_256 : decode cX12_town 256 = .ok (.iconst 0, 1) := by decide +kernel
theorem dX12_town_257 : decode cX12_town 257 = .ok (.bastore, 1) := by decide +kernel
theorem dX12_town_258 : decode cX12_town 258 = .ok (.iinc 5 1, 3) := by decide +kernel
theorem dX12_town_261 : decode cX12_town 261 = .ok (.goto (-17), 3) := by decide +kernel
theorem dX12_town_264 : decode cX12_town 264 = .ok (.aload_n 0, 1) := by decide +kernel
theorem dX12_town_265 : decode cX12_town 265 = .ok (.getfield 126, 3) := by decide +kernel
theorem dX12_town_268 : decode cX12_town 268 = .ok (.ireturn, 1) := by decide +kernel
