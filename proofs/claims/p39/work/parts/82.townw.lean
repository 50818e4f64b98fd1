theorem mw_45 : (Cond.selects RX12 yX12_readsLetter yX12_readsLetter) ∈ gx_G := gx_mem 45 (by decide +kernel) (by decide +kernel)
theorem mw_1431 : (Cond.fieldLink RX12 38 "DownTheGutterModel" "readKind" "[I") ∈ gx_G := gx_mem 1431 (by decide +kernel) (by decide +kernel)
theorem mw_1432 : (Cond.fieldLink RX12 41 "DownTheGutterModel" "readGoes" "[I") ∈ gx_G := gx_mem 1432 (by decide +kernel) (by decide +kernel)
theorem mw_1433 : (Cond.fieldLink RX12 44 "DownTheGutterModel" "readSecond" "[I") ∈ gx_G := gx_mem 1433 (by decide +kernel) (by decide +kernel)
theorem mw_1434 : (Cond.fieldLink RX12 47 "DownTheGutterModel" "readNumber" "[I") ∈ gx_G := gx_mem 1434 (by decide +kernel) (by decide +kernel)
theorem mw_1435 : (Cond.fieldLink RX12 189 "DownTheGutterModel" "readMany" "I") ∈ gx_G := gx_mem 1435 (by decide +kernel) (by decide +kernel)
theorem mw_1652 : (Cond.methodLink RX12 194 yX12_readsLetter) ∈ gx_G := gx_mem 1652 (by decide +kernel) (by decide +kernel)
theorem mw_1654 : (Cond.instanceMethod yX12_readsLetter) ∈ gx_G := gx_mem 1654 (by decide +kernel) (by decide +kernel)
theorem mw_1655 : (Cond.code yX12_readsLetter cX12_readsLetter 2 (some .int)) ∈ gx_G := gx_mem 1655 (by decide +kernel) (by decide +kernel)
theorem mw_1658 : (Cond.methodLink RX12 199 yJ0_substring_b52d3) ∈ gx_G := gx_mem 1658 (by decide +kernel) (by decide +kernel)
theorem mw_1659 : (Cond.instanceMethod yJ0_substring_b52d3) ∈ gx_G := gx_mem 1659 (by decide +kernel) (by decide +kernel)
theorem mw_1660 : (Cond.selects RJ0 yJ0_substring_b52d3 yJ0_substring_b52d3) ∈ gx_G := gx_mem 1660 (by decide +kernel) (by decide +kernel)
theorem mw_1661 : (Cond.code yJ0_substring_b52d3 cJ0_substring_b52d3 2 (some (.object "java/lang/String"))) ∈ gx_G := gx_mem 1661 (by decide +kernel) (by decide +kernel)
theorem cw_X12_199 : gx_Wv RX12 199 yJ0_substring_b52d3 cJ0_substring_b52d3 2 (some (.object "java/lang/String")) 1 := ⟨⟨mw_1658, mw_1659, mw_1660, mw_103, mw_1661⟩, by decide +kernel⟩
theorem cw_X12_194 : gx_Wv RX12 194 yX12_readsLetter cX12_readsLetter 2 (some .int) 0 := ⟨⟨mw_1652, mw_1654, mw_45, mw_101, mw_1655⟩, by decide +kernel⟩
theorem t_209 : gx_tb[209]? = some (.inr (0, 12, [])) := rfl
theorem t_210 : gx_tb[210]? = some (.inr (0, 12, [])) := rfl
theorem t_211 : gx_tb[211]? = some (.inr (0, 12, [])) := rfl
theorem t_212 : gx_tb[212]? = some (.inr (0, 12, [])) := rfl
theorem ss_9 : gx_ss[9]? = some (RX12, 192, "gdfrmik", [103, 100, 102, 114, 109, 105, 107]) := rfl
theorem ss_11 : gx_ss[11]? = some (RX12, 197, "0123456789", [48, 49, 50, 51, 52, 53, 54, 55, 56, 57]) := rfl
theorem dX12_readsPlace_0 : decode cX12_readsPlace 0 = .ok (.aload_n 0, 1) := by decide +kernel
theorem dX12_readsPlace_1 : decode cX12_readsPlace 1 = .ok (.getfield 189, 3) := by decide +kernel
theorem dX12_readsPlace_4 : decode cX12_readsPlace 4 = .ok (.istore_n 1, 1) := by decide +kernel
theorem dX12_readsPlace_5 : decode cX12_readsPlace 5 = .ok (.iload_n 1, 1) := by decide +kernel
theorem dX12_readsPlace_6 : decode cX12_readsPlace 6 = .ok (.bipush 12, 2) := by decide +kernel
theorem dX12_readsPlace_8 : decode cX12_readsPlace 8 = .ok (.if_icmp .ne 5, 3) := by decide +kernel
theorem dX12_readsPlace_11 : decode cX12_readsPlace 11 = .ok (.iconst 0, 1) := by decide +kernel
theorem dX12_readsPlace_12 : decode cX12_readsPlace 12 = .ok (.ireturn, 1) := by decide +kernel
theorem dX12_readsPlace_13 : decode cX12_readsPlace 13 = .ok (.aload_n 0, 1) := by decide +kernel
theorem dX12_readsPlace_14 : decode cX12_readsPlace 14 = .ok (.ldc 192, 2) := by decide +kernel
theorem dX12_readsPlace_16 : decode cX12_readsPlace 16 = .ok (.invokevirtual 183, 3) := by decide +kernel
theorem dX12_readsPlace_19 : decode cX12_readsPlace 19 = .ok (.istore_n 2, 1) := by decide +kernel
theorem dX12_readsPlace_20 : decode cX12_readsPlace 20 = .ok (.iload_n 2, 1) := by decide +kernel
theorem dX12_readsPlace_21 : decode cX12_readsPlace 21 = .ok (.ifCond .ge 5, 3) := by decide +kernel
theorem dX12_readsPlace_24 : decode cX12_readsPlace 24 = .ok (.iconst 0, 1) := by decide +kernel
theorem dX12_readsPlace_25 : decode cX12_readsPlace 25 = .ok (.ireturn, 1) := by decide +kernel
theorem dX12_readsPlace_26 : decode cX12_readsPlace 26 = .ok (.aload_n 0, 1) := by decide +kernel
theorem dX12_readsPlace_27 : decode cX12_readsPlace 27 = .ok (.getfield 38, 3) := by decide +kernel
theorem dX12_readsPlace_30 : decode cX12_readsPlace 30 = .ok (.iload_n 1, 1) := by decide +kernel
theorem dX12_readsPlace_31 : decode cX12_readsPlace 31 = .ok (.iload_n 2, 1) := by decide +kernel
theorem dX12_readsPlace_32 : decode cX12_readsPlace 32 = .ok (.iastore, 1) := by decide +kernel
theorem dX12_readsPlace_33 : decode cX12_readsPlace 33 = .ok (.aload_n 0, 1) := by decide +kernel
theorem dX12_readsPlace_34 : decode cX12_readsPlace 34 = .ok (.getfield 41, 3) := by decide +kernel
theorem dX12_readsPlace_37 : decode cX12_readsPlace 37 = .ok (.iload_n 1, 1) := by decide +kernel
theorem dX12_readsPlace_38 : decode cX12_readsPlace 38 = .ok (.iconst (-1), 1) := by decide +kernel
theorem dX12_readsPlace_39 : decode cX12_readsPlace 39 = .ok (.iastore, 1) := by decide +kernel
theorem dX12_readsPlace_40 : decode cX12_readsPlace 40 = .ok (.aload_n 0, 1) := by decide +kernel
theorem dX12_readsPlace_41 : decode cX12_readsPlace 41 = .ok (.getfield 44, 3) := by decide +kernel
theorem dX12_readsPlace_44 : decode cX12_readsPlace 44 = .ok (.iload_n 1, 1) := by decide +kernel
theorem dX12_readsPlace_45 : decode cX12_readsPlace 45 = .ok (.iconst (-1), 1) := by decide +kernel
theorem dX12_readsPlace_46 : decode cX12_readsPlace 46 = .ok (.iastore, 1) := by decide +kernel
theorem dX12_readsPlace_47 : decode cX12_readsPlace 47 = .ok (.aload_n 0, 1) := by decide +kernel
theorem dX12_readsPlace_48 : decode cX12_readsPlace 48 = .ok (.getfield 47, 3) := by decide +kernel
theorem dX12_readsPlace_51 : decode cX12_readsPlace 51 = .ok (.iload_n 1, 1) := by decide +kernel
theorem dX12_readsPlace_52 : decode cX12_readsPlace 52 = .ok (.iconst 0, 1) := by decide +kernel
theorem dX12_readsPlace_53 : decode cX12_readsPlace 53 = .ok (.iastore, 1) := by decide +kernel
theorem dX12_readsPlace_54 : decode cX12_readsPlace 54 = .ok (.aload_n 0, 1) := by decide +kernel
theorem dX12_readsPlace_55 : decode cX12_readsPlace 55 = .ok (.dup, 1) := by decide +kernel
theorem dX12_readsPlace_56 : decode cX12_readsPlace 56 = .ok (.getfield 189, 3) := by decide +kernel
theorem dX12_readsPlace_59 : decode cX12_readsPlace 59 = .ok (.iconst 1, 1) := by decide +kernel
theorem dX12_readsPlace_60 : decode cX12_readsPlace 60 = .ok (.iadd, 1) := by decide +kernel
theorem dX12_readsPlace_61 : decode cX12_readsPlace 61 = .ok (.putfield 189, 3) := by decide +kernel
theorem dX12_readsPlace_64 : decode cX12_readsPlace 64 = .ok (.iload_n 2, 1) := by decide +kernel
theorem dX12_readsPlace_65 : decode cX12_readsPlace 65 = .ok (.bipush 6, 2) := by decide +kernel
theorem dX12_readsPlace_67 : decode cX12_readsPlace 67 = .ok (.if_icmp .ne 5, 3) := by decide +kernel
theorem dX12_readsPlace_70 : decode cX12_readsPlace 70 = .ok (.iconst 1, 1) := by decide +kernel
theorem dX12_readsPlace_71 : decode cX12_readsPlace 71 = .ok (.ireturn, 1) := by decide +kernel
theorem dX12_readsPlace_72 : decode cX12_readsPlace 72 = .ok (.aload_n 0, 1) := by decide +kernel
theorem dX12_readsPlace_73 : decode cX12_readsPlace 73 = .ok (.getfield 41, 3) := by decide +kernel
theorem dX12_readsPlace_76 : decode cX12_readsPlace 76 = .ok (.iload_n 1, 1) := by decide +kernel
theorem dX12_readsPlace_77 : decode cX12_readsPlace 77 = .ok (.aload_n 0, 1) := by decide +kernel
theorem dX12_readsPlace_78 : decode cX12_readsPlace 78 = .ok (.invokevirtual 194, 3) := by decide +kernel
theorem dX12_readsPlace_81 : decode cX12_readsPlace 81 = .ok (.iastore, 1) := by decide +kernel
theorem dX12_readsPlace_82 : decode cX12_readsPlace 82 = .ok (.aload_n 0, 1) := by decide +kernel
theorem dX12_readsPlace_83 : decode cX12_readsPlace 83 = .ok (.getfield 41, 3) := by decide +kernel
theorem dX12_readsPlace_86 : decode cX12_readsPlace 86 = .ok (.iload_n 1, 1) := by decide +kernel
theorem dX12_readsPlace_87 : decode cX12_readsPlace 87 = .ok (.iaload, 1) := by decide +kernel
theorem dX12_readsPlace_88 : decode cX12_readsPlace 88 = .ok (.ifCond .lt 7, 3) := by decide +kernel
theorem dX12_readsPlace_91 : decode cX12_readsPlace 91 = .ok (.iload_n 2, 1) := by decide +kernel
theorem dX12_readsPlace_92 : decode cX12_readsPlace 92 = .ok (.ifCond .ne 18, 3) := by decide +kernel
theorem dX12_readsPlace_95 : decode cX12_readsPlace 95 = .ok (.aload_n 0, 1) := by decide +kernel
theorem dX12_readsPlace_96 : decode cX12_readsPlace 96 = .ok (.getfield 41, 3) := by decide +kernel
theorem dX12_readsPlace_99 : decode cX12_readsPlace 99 = .ok (.iload_n 1, 1) := by decide +kernel
theorem dX12_readsPlace_100 : decode cX12_readsPlace 100 = .ok (.iaload, 1) := by decide +kernel
theorem dX12_readsPlace_101 : decode cX12_readsPlace 101 = .ok (.ifCond .lt 7, 3) := by decide +kernel
theorem dX12_readsPlace_104 : decode cX12_readsPlace 104 = .ok (.iconst 1, 1) := by decide +kernel
theorem dX12_readsPlace_105 : decode cX12_readsPlace 105 = .ok (.goto 4, 3) := by decide +kernel
theorem dX12_readsPlace_108 : decode cX12_readsPlace 108 = .ok (.iconst 0, 1) := by decide +kernel
theorem dX12_readsPlace_109 : decode cX12_readsPlace 109 = .ok (.ireturn, 1) := by decide +kernel
theorem dX12_readsPlace_110 : decode cX12_readsPlace 110 = .ok (.iload_n 2, 1) := by decide +kernel
theorem dX12_readsPlace_111 : decode cX12_readsPlace 111 = .ok (.iconst 1, 1) := by decide +kernel
theorem dX12_readsPlace_112 : decode cX12_readsPlace 112 = .ok (.if_icmp .ne 28, 3) := by decide +kernel
theorem dX12_readsPlace_115 : decode cX12_readsPlace 115 = .ok (.aload_n 0, 1) := by decide +kernel
theorem dX12_readsPlace_116 : decode cX12_readsPlace 116 = .ok (.getfield 44, 3) := by decide +kernel
theorem dX12_readsPlace_119 : decode cX12_readsPlace 119 = .ok (.iload_n 1, 1) := by decide +kernel
theorem dX12_readsPlace_120 : decode cX12_readsPlace 120 = .ok (.aload_n 0, 1) := by decide +kernel
theorem dX12_readsPlace_121 : decode cX12_readsPlace 121 = .ok (.invokevirtual 194, 3) := by decide +kernel
theorem dX12_readsPlace_124 : decode cX12_readsPlace 124 = .ok (.iastore, 1) := by decide +kernel
theorem dX12_readsPlace_125 : decode cX12_readsPlace 125 = .ok (.aload_n 0, 1) := by decide +kernel
theorem dX12_readsPlace_126 : decode cX12_readsPlace 126 = .ok (.getfield 44, 3) := by decide +kernel
theorem dX12_readsPlace_129 : decode cX12_readsPlace 129 = .ok (.iload_n 1, 1) := by decide +kernel
theorem dX12_readsPlace_130 : decode cX12_readsPlace 130 = .ok (.iaload, 1) := by decide +kernel
theorem dX12_readsPlace_131 : decode cX12_readsPlace 131 = .ok (.ifCond .lt 7, 3) := by decide +kernel
theorem dX12_readsPlace_134 : decode cX12_readsPlace 134 = .ok (.iconst 1, 1) := by decide +kernel
theorem dX12_readsPlace_135 : decode cX12_readsPlace 135 = .ok (.goto 4, 3) := by decide +kernel
theorem dX12_readsPlace_138 : decode cX12_readsPlace 138 = .ok (.iconst 0, 1) := by decide +kernel
theorem dX12_readsPlace_139 : decode cX12_readsPlace 139 = .ok (.ireturn, 1) := by decide +kernel
theorem dX12_readsPlace_140 : decode cX12_readsPlace 140 = .ok (.ldc 197, 2) := by decide +kernel
theorem dX12_readsPlace_142 : decode cX12_readsPlace 142 = .ok (.astore_n 3, 1) := by decide +kernel
theorem dX12_readsPlace_143 : decode cX12_readsPlace 143 = .ok (.iload_n 2, 1) := by decide +kernel
theorem dX12_readsPlace_144 : decode cX12_readsPlace 144 = .ok (.iconst 4, 1) := by decide +kernel
theorem dX12_readsPlace_145 : decode cX12_readsPlace 145 = .ok (.if_icmp .ne 7, 3) := by decide +kernel
theorem dX12_readsPlace_148 : decode cX12_readsPlace 148 = .ok (.iconst 0, 1) := by decide +kernel
theorem dX12_readsPlace_149 : decode cX12_readsPlace 149 = .ok (.goto 13, 3) := by decide +kernel
theorem dX12_readsPlace_152 : decode cX12_readsPlace 152 = .ok (.iload_n 2, 1) := by decide +kernel
theorem dX12_readsPlace_153 : decode cX12_readsPlace 153 = .ok (.iconst 5, 1) := by decide +kernel
theorem dX12_readsPlace_154 : decode cX12_readsPlace 154 = .ok (.if_icmp .ne 7, 3) := by decide +kernel
theorem dX12_readsPlace_157 : decode cX12_readsPlace 157 = .ok (.iconst 2, 1) := by decide +kernel
theorem dX12_readsPlace_158 : decode cX12_readsPlace 158 = .ok (.goto 4, 3) := by decide +kernel
theorem dX12_readsPlace_161 : decode cX12_readsPlace 161 = .ok (.iconst 1, 1) := by decide +kernel
theorem dX12_readsPlace_162 : decode cX12_readsPlace 162 = .ok (.istore 4, 2) := by decide +kernel
theorem dX12_readsPlace_164 : decode cX12_readsPlace 164 = .ok (.aload_n 0, 1) := by decide +kernel
theorem dX12_readsPlace_165 : decode cX12_readsPlace 165 = .ok (.aload_n 3, 1) := by decide +kernel
theorem dX12_readsPlace_166 : decode cX12_readsPlace 166 = .ok (.iload 4, 2) := by decide +kernel
theorem dX12_readsPlace_168 : decode cX12_readsPlace 168 = .ok (.invokevirtual 199, 3) := by decide +kernel
theorem dX12_readsPlace_171 : decode cX12_readsPlace 171 = .ok (.invokevirtual 183, 3) := by decide +kernel
theorem dX12_readsPlace_174 : decode cX12_readsPlace 174 = .ok (.istore 5, 2) := by decide +kernel
theorem dX12_readsPlace_176 : decode cX12_readsPlace 176 = .ok (.iload 5, 2) := by decide +kernel
theorem dX12_readsPlace_178 : decode cX12_readsPlace 178 = .ok (.ifCond .ge 5, 3) := by decide +kernel
theorem dX12_readsPlace_181 : decode cX12_readsPlace 181 = .ok (.iconst 0, 1) := by decide +kernel
theorem dX12_readsPlace_182 : decode cX12_readsPlace 182 = .ok (.ireturn, 1) := by decide +kernel
theorem dX12_readsPlace_183 : decode cX12_readsPlace 183 = .ok (.aload_n 0, 1) := by decide +kernel
theorem dX12_readsPlace_184 : decode cX12_readsPlace 184 = .ok (.getfield 47, 3) := by decide +kernel
theorem dX12_readsPlace_187 : decode cX12_readsPlace 187 = .ok (.iload_n 1, 1) := by decide +kernel
theorem dX12_readsPlace_188 : decode cX12_readsPlace 188 = .ok (.iload 5, 2) := by decide +kernel
theorem dX12_readsPlace_190 : decode cX12_readsPlace 190 = .ok (.iload 4, 2) := by decide +kernel
theorem dX12_readsPlace_192 : decode cX12_readsPlace 192 = .ok (.iadd, 1) := by decide +kernel
theorem dX12_readsPlace_193 : decode cX12_readsPlace 193 = .ok (.iastore, 1) := by decide +kernel
theorem dX12_readsPlace_194 : decode cX12_readsPlace 194 = .ok (.iload_n 2, 1) := by decide +kernel
theorem dX12_readsPlace_195 : decode cX12_readsPlace 195 = .ok (.iconst 4, 1) := by decide +kernel
theorem dX12_readsPlace_196 : decode cX12_readsPlace 196 = .ok (.if_icmp .ne 39, 3) := by decide +kernel
theorem dX12_readsPlace_199 : decode cX12_readsPlace 199 = .ok (.aload_n 0, 1) := by decide +kernel
theorem dX12_readsPlace_200 : decode cX12_readsPlace 200 = .ok (.aload_n 3, 1) := by decide +kernel
theorem dX12_readsPlace_201 : decode cX12_readsPlace 201 = .ok (.iload 5, 2) := by decide +kernel
theorem dX12_readsPlace_203 : decode cX12_readsPlace 203 = .ok (.invokevirtual 199, 3) := by decide +kernel
theorem dX12_readsPlace_206 : decode cX12_readsPlace 206 = .ok (.invokevirtual 183, 3) := by decide +kernel
theorem dX12_readsPlace_209 : decode cX12_readsPlace 209 = .ok (.istore 6, 2) := by decide +kernel
theorem dX12_readsPlace_211 : decode cX12_readsPlace 211 = .ok (.iload 6, 2) := by decide +kernel
theorem dX12_readsPlace_213 : decode cX12_readsPlace 213 = .ok (.ifCond .ge 5, 3) := by decide +kernel
theorem dX12_readsPlace_216 : decode cX12_readsPlace 216 = .ok (.iconst 0, 1) := by decide +kernel
theorem dX12_readsPlace_217 : decode cX12_readsPlace 217 = .ok (.ireturn, 1) := by decide +kernel
theorem dX12_readsPlace_218 : decode cX12_readsPlace 218 = .ok (.aload_n 0, 1) := by decide +kernel
theorem dX12_readsPlace_219 : decode cX12_readsPlace 219 = .ok (.getfield 47, 3) := by decide +kernel
theorem dX12_readsPlace_222 : decode cX12_readsPlace 222 = .ok (.iload_n 1, 1) := by decide +kernel
theorem dX12_readsPlace_223 : decode cX12_readsPlace 223 = .ok (.bipush 10, 2) := by decide +kernel
theorem dX12_readsPlace_225 : decode cX12_readsPlace 225 = .ok (.iload 5, 2) := by decide +kernel
theorem dX12_readsPlace_227 : decode cX12_readsPlace 227 = .ok (.imul, 1) := by decide +kernel
theorem dX12_readsPlace_228 : decode cX12_readsPlace 228 = .ok (.iload 5, 2) := by decide +kernel
theorem dX12_readsPlace_230 : decode cX12_readsPlace 230 = .ok (.iadd, 1) := by decide +kernel
theorem dX12_readsPlace_231 : decode cX12_readsPlace 231 = .ok (.iload 6, 2) := by decide +kernel
theorem dX12_readsPlace_233 : decode cX12_readsPlace 233 = .ok (.iadd, 1) := by decide +kernel
theorem dX12_readsPlace_234 : decode cX12_readsPlace 234 = .ok (.iastore, 1) := by decide +kernel
theorem dX12_readsPlace_235 : decode cX12_readsPlace 235 = .ok (.iconst 1, 1) := by decide +kernel
theorem dX12_readsPlace_236 : decode cX12_readsPlace 236 = .ok (.ireturn, 1) := by decide +kernel
