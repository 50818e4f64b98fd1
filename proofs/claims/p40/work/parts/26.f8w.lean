theorem mw_48 : (Cond.selects RX12 yX12_readsRank yX12_readsRank) ∈ gx_G := gx_mem 48 (by decide +kernel) (by decide +kernel)
theorem mw_49 : (Cond.selects RX12 yX12_readsThing yX12_readsThing) ∈ gx_G := gx_mem 49 (by decide +kernel) (by decide +kernel)
theorem mw_50 : (Cond.selects RX12 yX12_codes yX12_codes) ∈ gx_G := gx_mem 50 (by decide +kernel) (by decide +kernel)
theorem mw_80 : (Cond.selects RX12 yX12_saves yX12_saves) ∈ gx_G := gx_mem 80 (by decide +kernel) (by decide +kernel)
theorem mw_1436 : (Cond.fieldLink RX12 50 "DownTheGutterModel" "meant" "[I") ∈ gx_G := gx_mem 1436 (by decide +kernel) (by decide +kernel)
theorem mw_1437 : (Cond.fieldLink RX12 53 "DownTheGutterModel" "stood" "[I") ∈ gx_G := gx_mem 1437 (by decide +kernel) (by decide +kernel)
theorem mw_1438 : (Cond.fieldLink RX12 186 "DownTheGutterModel" "meantMany" "I") ∈ gx_G := gx_mem 1438 (by decide +kernel) (by decide +kernel)
theorem mw_1439 : (Cond.fieldLink RX12 56 "DownTheGutterModel" "readWaters" "[I") ∈ gx_G := gx_mem 1439 (by decide +kernel) (by decide +kernel)
theorem mw_1755 : (Cond.methodLink RX12 243 yX12_readsRank) ∈ gx_G := gx_mem 1755 (by decide +kernel) (by decide +kernel)
theorem mw_1757 : (Cond.instanceMethod yX12_readsRank) ∈ gx_G := gx_mem 1757 (by decide +kernel) (by decide +kernel)
theorem mw_1758 : (Cond.code yX12_readsRank cX12_readsRank 4 (some .boolean)) ∈ gx_G := gx_mem 1758 (by decide +kernel) (by decide +kernel)
theorem mw_1759 : (Cond.methodLink RX12 231 yX12_readsThing) ∈ gx_G := gx_mem 1759 (by decide +kernel) (by decide +kernel)
theorem mw_1761 : (Cond.instanceMethod yX12_readsThing) ∈ gx_G := gx_mem 1761 (by decide +kernel) (by decide +kernel)
theorem mw_1762 : (Cond.code yX12_readsThing cX12_readsThing 2 (some .boolean)) ∈ gx_G := gx_mem 1762 (by decide +kernel) (by decide +kernel)
theorem mw_1763 : (Cond.methodLink RX12 234 yX12_codes) ∈ gx_G := gx_mem 1763 (by decide +kernel) (by decide +kernel)
theorem mw_1765 : (Cond.instanceMethod yX12_codes) ∈ gx_G := gx_mem 1765 (by decide +kernel) (by decide +kernel)
theorem mw_1766 : (Cond.code yX12_codes cX12_codes 2 none) ∈ gx_G := gx_mem 1766 (by decide +kernel) (by decide +kernel)
theorem mw_1789 : (Cond.constantLong RX12 304 (5)) ∈ gx_G := gx_mem 1789 (by decide +kernel) (by decide +kernel)
theorem mw_2007 : (Cond.methodLink RX12 422 yX12_saves) ∈ gx_G := gx_mem 2007 (by decide +kernel) (by decide +kernel)
theorem mw_2009 : (Cond.instanceMethod yX12_saves) ∈ gx_G := gx_mem 2009 (by decide +kernel) (by decide +kernel)
theorem mw_2010 : (Cond.code yX12_saves cX12_saves 9 (some .int)) ∈ gx_G := gx_mem 2010 (by decide +kernel) (by decide +kernel)
theorem cw_X12_243 : gx_Wv RX12 243 yX12_readsRank cX12_readsRank 4 (some .boolean) 1 := ⟨⟨mw_1755, mw_1757, mw_48, mw_101, mw_1758⟩, by decide +kernel⟩
theorem cw_X12_234 : gx_Wv RX12 234 yX12_codes cX12_codes 2 none 1 := ⟨⟨mw_1763, mw_1765, mw_50, mw_101, mw_1766⟩, by decide +kernel⟩
theorem cw_X12_231 : gx_Wv RX12 231 yX12_readsThing cX12_readsThing 2 (some .boolean) 0 := ⟨⟨mw_1759, mw_1761, mw_49, mw_101, mw_1762⟩, by decide +kernel⟩
theorem cw_X12_422 : gx_Wv RX12 422 yX12_saves cX12_saves 9 (some .int) 3 := ⟨⟨mw_2007, mw_2009, mw_80, mw_101, mw_2010⟩, by decide +kernel⟩
theorem t_213 : gx_tb[213]? = some (.inr (0, 80, [])) := rfl
theorem t_214 : gx_tb[214]? = some (.inr (0, 80, [])) := rfl
theorem t_215 : gx_tb[215]? = some (.inr (0, 40, [])) := rfl
theorem ss_14 : gx_ss[14]? = some (RX12, 223, "0123", [48, 49, 50, 51]) := rfl
theorem ss_15 : gx_ss[15]? = some (RX12, 241, "pmwibcnf", [112, 109, 119, 105, 98, 99, 110, 102]) := rfl
theorem ss_16 : gx_ss[16]? = some (RX12, 246, "<>=", [60, 62, 61]) := rfl
theorem ss_17 : gx_ss[17]? = some (RX12, 248, "+-", [43, 45]) := rfl
theorem ss_18 : gx_ss[18]? = some (RX12, 250, "*/", [42, 47]) := rfl
theorem dX12_place_0 : decode cX12_place 0 = .ok (.aload_n 0, 1) := by decide +kernel
theorem dX12_place_1 : decode cX12_place 1 = .ok (.iconst 0, 1) := by decide +kernel
theorem dX12_place_2 : decode cX12_place 2 = .ok (.putfield 111, 3) := by decide +kernel
theorem dX12_place_5 : decode cX12_place 5 = .ok (.aload_n 0, 1) := by decide +kernel
theorem dX12_place_6 : decode cX12_place 6 = .ok (.iload_n 1, 1) := by decide +kernel
theorem dX12_place_7 : decode cX12_place 7 = .ok (.invokevirtual 133, 3) := by decide +kernel
theorem dX12_place_10 : decode cX12_place 10 = .ok (.ifCond .eq 15, 3) := by decide +kernel
theorem dX12_place_13 : decode cX12_place 13 = .ok (.iload_n 2, 1) := by decide +kernel
theorem dX12_place_14 : decode cX12_place 14 = .ok (.i2l, 1) := by decide +kernel
theorem dX12_place_15 : decode cX12_place 15 = .ok (.lconst 0, 1) := by decide +kernel
theorem dX12_place_16 : decode cX12_place 16 = .ok (.ldc2_w 304, 3) := by decide +kernel
theorem dX12_place_19 : decode cX12_place 19 = .ok (.invokestatic 129, 3) := by decide +kernel
theorem dX12_place_22 : decode cX12_place 22 = .ok (.ifCond .ne 8, 3) := by decide +kernel
theorem dX12_place_25 : decode cX12_place 25 = .ok (.aload_n 0, 1) := by decide +kernel
theorem dX12_place_26 : decode cX12_place 26 = .ok (.invokevirtual 306, 3) := by decide +kernel
theorem dX12_place_29 : decode cX12_place 29 = .ok (.ireturn, 1) := by decide +kernel
theorem dX12_place_30 : decode cX12_place 30 = .ok (.iload_n 2, 1) := by decide +kernel
theorem dX12_place_31 : decode cX12_place 31 = .ok (.tableswitch 73 0 4 #[33, 40, 47, 54, 66], 33) := by decide +kernel
theorem dX12_place_64 : decode cX12_place 64 = .ok (.aload_n 0, 1) := by decide +kernel
theorem dX12_place_65 : decode cX12_place 65 = .ok (.getfield 13, 3) := by decide +kernel
theorem dX12_place_68 : decode cX12_place 68 = .ok (.iload_n 1, 1) := by decide +kernel
theorem dX12_place_69 : decode cX12_place 69 = .ok (.iaload, 1) := by decide +kernel
theorem dX12_place_70 : decode cX12_place 70 = .ok (.ireturn, 1) := by decide +kernel
theorem dX12_place_71 : decode cX12_place 71 = .ok (.aload_n 0, 1) := by decide +kernel
theorem dX12_place_72 : decode cX12_place 72 = .ok (.getfield 17, 3) := by decide +kernel
theorem dX12_place_75 : decode cX12_place 75 = .ok (.iload_n 1, 1) := by decide +kernel
theorem dX12_place_76 : decode cX12_place 76 = .ok (.iaload, 1) := by decide +kernel
theorem dX12_place_77 : decode cX12_place 77 = .ok (.ireturn, 1) := by decide +kernel
theorem dX12_place_78 : decode cX12_place 78 = .ok (.aload_n 0, 1) := by decide +kernel
theorem dX12_place_79 : decode cX12_place 79 = .ok (.getfield 20, 3) := by decide +kernel
theorem dX12_place_82 : decode cX12_place 82 = .ok (.iload_n 1, 1) := by decide +kernel
theorem dX12_place_83 : decode cX12_place 83 = .ok (.iaload, 1) := by decide +kernel
theorem dX12_place_84 : decode cX12_place 84 = .ok (.ireturn, 1) := by decide +kernel
theorem dX12_place_85 : decode cX12_place 85 = .ok (.aload_n 0, 1) := by decide +kernel
theorem dX12_place_86 : decode cX12_place 86 = .ok (.getfield 29, 3) := by decide +kernel
theorem dX12_place_89 : decode cX12_place 89 = .ok (.bipush 42, 2) := by decide +kernel
theorem dX12_place_91 : decode cX12_place 91 = .ok (.iaload, 1) := by decide +kernel
theorem dX12_place_92 : decode cX12_place 92 = .ok (.iload_n 1, 1) := by decide +kernel
theorem dX12_place_93 : decode cX12_place 93 = .ok (.ishr, 1) := by decide +kernel
theorem dX12_place_94 : decode cX12_place 94 = .ok (.iconst 1, 1) := by decide +kernel
theorem dX12_place_95 : decode cX12_place 95 = .ok (.iand, 1) := by decide +kernel
theorem dX12_place_96 : decode cX12_place 96 = .ok (.ireturn, 1) := by decide +kernel
theorem dX12_place_97 : decode cX12_place 97 = .ok (.aload_n 0, 1) := by decide +kernel
theorem dX12_place_98 : decode cX12_place 98 = .ok (.getfield 23, 3) := by decide +kernel
theorem dX12_place_101 : decode cX12_place 101 = .ok (.iload_n 1, 1) := by decide +kernel
theorem dX12_place_102 : decode cX12_place 102 = .ok (.iaload, 1) := by decide +kernel
theorem dX12_place_103 : decode cX12_place 103 = .ok (.ireturn, 1) := by decide +kernel
theorem dX12_place_104 : decode cX12_place 104 = .ok (.iconst 0, 1) := by decide +kernel
theorem dX12_place_105 : decode cX12_place 105 = .ok (.istore_n 3, 1) := by decide +kernel
theorem dX12_place_106 : decode cX12_place 106 = .ok (.iconst 0, 1) := by decide +kernel
theorem dX12_place_107 : decode cX12_place 107 = .ok (.istore 4, 2) := by decide +kernel
theorem dX12_place_109 : decode cX12_place 109 = .ok (.iload 4, 2) := by decide +kernel
theorem dX12_place_111 : decode cX12_place 111 = .ok (.aload_n 0, 1) := by decide +kernel
theorem dX12_place_112 : decode cX12_place 112 = .ok (.getfield 29, 3) := by decide +kernel
theorem dX12_place_115 : decode cX12_place 115 = .ok (.bipush 44, 2) := by decide +kernel
theorem dX12_place_117 : decode cX12_place 117 = .ok (.iaload, 1) := by decide +kernel
theorem dX12_place_118 : decode cX12_place 118 = .ok (.if_icmp .ge 51, 3) := by decide +kernel
theorem dX12_place_121 : decode cX12_place 121 = .ok (.iload_n 3, 1) := by decide +kernel
theorem dX12_place_122 : decode cX12_place 122 = .ok (.aload_n 0, 1) := by decide +kernel
theorem dX12_place_123 : decode cX12_place 123 = .ok (.getfield 29, 3) := by decide +kernel
theorem dX12_place_126 : decode cX12_place 126 = .ok (.bipush 7, 2) := by decide +kernel
theorem dX12_place_128 : decode cX12_place 128 = .ok (.iload 4, 2) := by decide +kernel
theorem dX12_place_130 : decode cX12_place 130 = .ok (.imul, 1) := by decide +kernel
theorem dX12_place_131 : decode cX12_place 131 = .ok (.iconst 4, 1) := by decide +kernel
theorem dX12_place_132 : decode cX12_place 132 = .ok (.iadd, 1) := by decide +kernel
theorem dX12_place_133 : decode cX12_place 133 = .ok (.iaload, 1) := by decide +kernel
theorem dX12_place_134 : decode cX12_place 134 = .ok (.ifCond .ne 26, 3) := by decide +kernel
theorem dX12_place_137 : decode cX12_place 137 = .ok (.aload_n 0, 1) := by decide +kernel
theorem dX12_place_138 : decode cX12_place 138 = .ok (.getfield 29, 3) := by decide +kernel
theorem dX12_place_141 : decode cX12_place 141 = .ok (.bipush 7, 2) := by decide +kernel
theorem dX12_place_143 : decode cX12_place 143 = .ok (.iload 4, 2) := by decide +kernel
theorem dX12_place_145 : decode cX12_place 145 = .ok (.imul, 1) := by decide +kernel
theorem dX12_place_146 : decode cX12_place 146 = .ok (.iconst 0, 1) := by decide +kernel
theorem dX12_place_147 : decode cX12_place 147 = .ok (.iadd, 1) := by decide +kernel
theorem dX12_place_148 : decode cX12_place 148 = .ok (.iaload, 1) := by decide +kernel
theorem dX12_place_149 : decode cX12_place 149 = .ok (.iload_n 1, 1) := by decide +kernel
theorem dX12_place_150 : decode cX12_place 150 = .ok (.if_icmp .ne 10, 3) := by decide +kernel
theorem dX12_place_153 : decode cX12_place 153 = .ok (.iconst 1, 1) := by decide +kernel
theorem dX12_place_154 : decode cX12_place 154 = .ok (.iload 4, 2) := by decide +kernel
theorem dX12_place_156 : decode cX12_place 156 = .ok (.ishl, 1) := by decide +kernel
theorem dX12_place_157 : decode cX12_place 157 = .ok (.goto 4, 3) := by decide +kernel
theorem dX12_place_160 : decode cX12_place 160 = .ok (.iconst 0, 1) := by decide +kernel
theorem dX12_place_161 : decode cX12_place 161 = .ok (.ior, 1) := by decide +kernel
theorem dX12_place_162 : decode cX12_place 162 = .ok (.istore_n 3, 1) := by decide +kernel
theorem dX12_place_163 : decode cX12_place 163 = .ok (.iinc 4 1, 3) := by decide +kernel
theorem dX12_place_166 : decode cX12_place 166 = .ok (.goto (-57), 3) := by decide +kernel
theorem dX12_place_169 : decode cX12_place 169 = .ok (.iload_n 3, 1) := by decide +kernel
theorem dX12_place_170 : decode cX12_place 170 = .ok (.ireturn, 1) := by decide +kernel
theorem dX12_plank_0 : decode cX12_plank 0 = .ok (.aload_n 0, 1) := by decide +kernel
theorem dX12_plank_1 : decode cX12_plank 1 = .ok (.iconst 0, 1) := by decide +kernel
theorem dX12_plank_2 : decode cX12_plank 2 = .ok (.putfield 111, 3) := by decide +kernel
theorem dX12_plank_5 : decode cX12_plank 5 = .ok (.aload_n 0, 1) := by decide +kernel
theorem dX12_plank_6 : decode cX12_plank 6 = .ok (.iload_n 1, 1) := by decide +kernel
theorem dX12_plank_7 : decode cX12_plank 7 = .ok (.invokevirtual 316, 3) := by decide +kernel
theorem dX12_plank_10 : decode cX12_plank 10 = .ok (.ifCond .eq 13, 3) := by decide +kernel
theorem dX12_plank_13 : decode cX12_plank 13 = .ok (.iload_n 2, 1) := by decide +kernel
theorem dX12_plank_14 : decode cX12_plank 14 = .ok (.i2l, 1) := by decide +kernel
theorem dX12_plank_15 : decode cX12_plank 15 = .ok (.lconst 0, 1) := by decide +kernel
theorem dX12_plank_16 : decode cX12_plank 16 = .ok (.lconst 1, 1) := by decide +kernel
theorem dX12_plank_17 : decode cX12_plank 17 = .ok (.invokestatic 129, 3) := by decide +kernel
theorem dX12_plank_20 : decode cX12_plank 20 = .ok (.ifCond .ne 5, 3) := by decide +kernel
theorem dX12_plank_23 : decode cX12_plank 23 = .ok (.iconst 0, 1) := by decide +kernel
theorem dX12_plank_24 : decode cX12_plank 24 = .ok (.ireturn, 1) := by decide +kernel
theorem dX12_plank_25 : decode cX12_plank 25 = .ok (.aload_n 0, 1) := by decide +kernel
theorem dX12_plank_26 : decode cX12_plank 26 = .ok (.invokevirtual 319, 3) := by decide +kernel
theorem dX12_plank_29 : decode cX12_plank 29 = .ok (.aload_n 0, 1) := by decide +kernel
theorem dX12_plank_30 : decode cX12_plank 30 = .ok (.getfield 29, 3) := by decide +kernel
theorem dX12_plank_33 : decode cX12_plank 33 = .ok (.bipush 42, 2) := by decide +kernel
theorem dX12_plank_35 : decode cX12_plank 35 = .ok (.aload_n 0, 1) := by decide +kernel
theorem dX12_plank_36 : decode cX12_plank 36 = .ok (.getfield 29, 3) := by decide +kernel
theorem dX12_plank_39 : decode cX12_plank 39 = .ok (.bipush 42, 2) := by decide +kernel
theorem dX12_plank_41 : decode cX12_plank 41 = .ok (.iaload, 1) := by decide +kernel
theorem dX12_plank_42 : decode cX12_plank 42 = .ok (.iconst 1, 1) := by decide +kernel
theorem dX12_plank_43 : decode cX12_plank 43 = .ok (.iload_n 1, 1) := by decide +kernel
theorem dX12_plank_44 : decode cX12_plank 44 = .ok (.ishl, 1) := by decide +kernel
theorem dX12_plank_45 : decode cX12_plank 45 = .ok (.iconst (-1), 1) := by decide +kernel
theorem dX12_plank_46 : decode cX12_plank 46 = .ok (.ixor, 1) := by decide +kernel
theorem dX12_plank_47 : decode cX12_plank 47 = .ok (.iand, 1) := by decide +kernel
theorem dX12_plank_48 : decode cX12_plank 48 = .ok (.iload_n 2, 1) := by decide +kernel
theorem dX12_plank_49 : decode cX12_plank 49 = .ok (.iload_n 1, 1) := by decide +kernel
theorem dX12_plank_50 : decode cX12_plank 50 = .ok (.ishl, 1) := by decide +kernel
theorem dX12_plank_51 : decode cX12_plank 51 = .ok (.ior, 1) := by decide +kernel
theorem dX12_plank_52 : decode cX12_plank 52 = .ok (.iastore, 1) := by decide +kernel
theorem dX12_plank_53 : decode cX12_plank 53 = .ok (.aload_n 0, 1) := by decide +kernel
theorem dX12_plank_54 : decode cX12_plank 54 = .ok (.iconst 1, 1) := by decide +kernel
theorem dX12_plank_55 : decode cX12_plank 55 = .ok (.invokevirtual 322, 3) := by decide +kernel
theorem dX12_plank_58 : decode cX12_plank 58 = .ok (.iconst 1, 1) := by decide +kernel
theorem dX12_plank_59 : decode cX12_plank 59 = .ok (.if_icmp .ne 7, 3) := by decide +kernel
theorem dX12_plank_62 : decode cX12_plank 62 = .ok (.iconst 1, 1) := by decide +kernel
theorem dX12_plank_63 : decode cX12_plank 63 = .ok (.goto 4, 3) := by decide +kernel
theorem dX12_plank_66 : decode cX12_plank 66 = .ok (.iconst 0, 1) := by decide +kernel
theorem dX12_plank_67 : decode cX12_plank 67 = .ok (.ireturn, 1) := by decide +kernel
theorem dX12_put_0 : decode cX12_put 0 = .ok (.aload_n 0, 1) := by decide +kernel
theorem dX12_put_1 : decode cX12_put 1 = .ok (.iconst 0, 1) := by decide +kernel
theorem dX12_put_2 : decode cX12_put 2 = .ok (.putfield 111, 3) := by decide +kernel
theorem dX12_put_5 : decode cX12_put 5 = .ok (.aload_n 0, 1) := by decide +kernel
theorem dX12_put_6 : decode cX12_put 6 = .ok (.invokevirtual 319, 3) := by decide +kernel
theorem dX12_put_9 : decode cX12_put 9 = .ok (.aload_n 0, 1) := by decide +kernel
theorem dX12_put_10 : decode cX12_put 10 = .ok (.iload_n 1, 1) := by decide +kernel
theorem dX12_put_11 : decode cX12_put 11 = .ok (.iload_n 2, 1) := by decide +kernel
theorem dX12_put_12 : decode cX12_put 12 = .ok (.iload_n 3, 1) := by decide +kernel
theorem dX12_put_13 : decode cX12_put 13 = .ok (.iload 4, 2) := by decide +kernel
theorem dX12_put_15 : decode cX12_put 15 = .ok (.invokevirtual 339, 3) := by decide +kernel
theorem dX12_put_18 : decode cX12_put 18 = .ok (.istore 5, 2) := by decide +kernel
theorem dX12_put_20 : decode cX12_put 20 = .ok (.iload 5, 2) := by decide +kernel
theorem dX12_put_22 : decode cX12_put 22 = .ok (.ifCond .ge 8, 3) := by decide +kernel
theorem dX12_put_25 : decode cX12_put 25 = .ok (.iload 5, 2) := by decide +kernel
theorem dX12_put_27 : decode cX12_put 27 = .ok (.goto 9, 3) := by decide +kernel
theorem dX12_put_30 : decode cX12_put 30 = .ok (.aload_n 0, 1) := by decide +kernel
theorem dX12_put_31 : decode cX12_put 31 = .ok (.iload 5, 2) := by decide +kernel
theorem dX12_put_33 : decode cX12_put 33 = .ok (.invokevirtual 322, 3) := by decide +kernel
theorem dX12_put_36 : decode cX12_put 36 = .ok (.ireturn, 1) := by decide +kernel
theorem dX12_readsLetter_0 : decode cX12_readsLetter 0 = .ok (.aload_n 0, 1) := by decide +kernel
theorem dX12_readsLetter_1 : decode cX12_readsLetter 1 = .ok (.ldc 181, 2) := by decide +kernel
theorem dX12_readsLetter_3 : decode cX12_readsLetter 3 = .ok (.invokevirtual 183, 3) := by decide +kernel
theorem dX12_readsLetter_6 : decode cX12_readsLetter 6 = .ok (.istore_n 1, 1) := by decide +kernel
theorem dX12_readsLetter_7 : decode cX12_readsLetter 7 = .ok (.iload_n 1, 1) := by decide +kernel
theorem dX12_readsLetter_8 : decode cX12_readsLetter 8 = .ok (.ifCond .lt 38, 3) := by decide +kernel
theorem dX12_readsLetter_11 : decode cX12_readsLetter 11 = .ok (.aload_n 0, 1) := by decide +kernel
theorem dX12_readsLetter_12 : decode cX12_readsLetter 12 = .ok (.getfield 50, 3) := by decide +kernel
theorem dX12_readsLetter_15 : decode cX12_readsLetter 15 = .ok (.aload_n 0, 1) := by decide +kernel
theorem dX12_readsLetter_16 : decode cX12_readsLetter 16 = .ok (.getfield 186, 3) := by decide +kernel
theorem dX12_readsLetter_19 : decode cX12_readsLetter 19 = .ok (.iload_n 1, 1) := by decide +kernel
theorem dX12_readsLetter_20 : decode cX12_readsLetter 20 = .ok (.iastore, 1) := by decide +kernel
theorem dX12_readsLetter_21 : decode cX12_readsLetter 21 = .ok (.aload_n 0, 1) := by decide +kernel
theorem dX12_readsLetter_22 : decode cX12_readsLetter 22 = .ok (.getfield 53, 3) := by decide +kernel
theorem dX12_readsLetter_25 : decode cX12_readsLetter 25 = .ok (.aload_n 0, 1) := by decide +kernel
theorem dX12_readsLetter_26 : decode cX12_readsLetter 26 = .ok (.getfield 186, 3) := by decide +kernel
theorem dX12_readsLetter_29 : decode cX12_readsLetter 29 = .ok (.aload_n 0, 1) := by decide +kernel
theorem dX12_readsLetter_30 : decode cX12_readsLetter 30 = .ok (.getfield 140, 3) := by decide +kernel
theorem dX12_readsLetter_33 : decode cX12_readsLetter 33 = .ok (.iconst 1, 1) := by decide +kernel
theorem dX12_readsLetter_34 : decode cX12_readsLetter 34 = .ok (.isub, 1) := by decide +kernel
theorem dX12_readsLetter_35 : decode cX12_readsLetter 35 = .ok (.iastore, 1) := by decide +kernel
theorem dX12_readsLetter_36 : decode cX12_readsLetter 36 = .ok (.aload_n 0, 1) := by decide +kernel
theorem dX12_readsLetter_37 : decode cX12_readsLetter 37 = .ok (.dup, 1) := by decide +kernel
theorem dX12_readsLetter_38 : decode cX12_readsLetter 38 = .ok (.getfield 186, 3) := by decide +kernel
theorem dX12_readsLetter_41 : decode cX12_readsLetter 41 = .ok (.iconst 1, 1) := by decide +kernel
theorem dX12_readsLetter_42 : decode cX12_readsLetter 42 = .ok (.iadd, 1) := by decide +kernel
theorem dX12_readsLetter_43 : decode cX12_readsLetter 43 = .ok (.putfield 186, 3) := by decide +kernel
theorem dX12_readsLetter_46 : decode cX12_readsLetter 46 = .ok (.iload_n 1, 1) := by decide +kernel
theorem dX12_readsLetter_47 : decode cX12_readsLetter 47 = .ok (.ireturn, 1) := by decide +kernel
theorem dX12_readsRank_0 : decode cX12_readsRank 0 = .ok (.iload_n 1, 1) := by decide +kernel
theorem dX12_readsRank_1 : decode cX12_readsRank 1 = .ok (.iconst 3, 1) := by decide +kernel
theorem dX12_readsRank_2 : decode cX12_readsRank 2 = .ok (.if_icmp .ne 8, 3) := by decide +kernel
theorem dX12_readsRank_5 : decode cX12_readsRank 5 = .ok (.aload_n 0, 1) := by decide +kernel
theorem dX12_readsRank_6 : decode cX12_readsRank 6 = .ok (.invokevirtual 231, 3) := by decide +kernel
theorem dX12_readsRank_9 : decode cX12_readsRank 9 = .ok (.ireturn, 1) := by decide +kernel
theorem dX12_readsRank_10 : decode cX12_readsRank 10 = .ok (.aload_n 0, 1) := by decide +kernel
theorem dX12_readsRank_11 : decode cX12_readsRank 11 = .ok (.iload_n 1, 1) := by decide +kernel
theorem dX12_readsRank_12 : decode cX12_readsRank 12 = .ok (.iconst 1, 1) := by decide +kernel
theorem dX12_readsRank_13 : decode cX12_readsRank 13 = .ok (.iadd, 1) := by decide +kernel
theorem dX12_readsRank_14 : decode cX12_readsRank 14 = .ok (.invokevirtual 243, 3) := by decide +kernel
theorem dX12_readsRank_17 : decode cX12_readsRank 17 = .ok (.ifCond .ne 5, 3) := by decide +kernel
theorem dX12_readsRank_20 : decode cX12_readsRank 20 = .ok (.iconst 0, 1) := by decide +kernel
theorem dX12_readsRank_21 : decode cX12_readsRank 21 = .ok (.ireturn, 1) := by decide +kernel
theorem dX12_readsRank_22 : decode cX12_readsRank 22 = .ok (.iconst 1, 1) := by decide +kernel
theorem dX12_readsRank_23 : decode cX12_readsRank 23 = .ok (.istore_n 2, 1) := by decide +kernel
theorem dX12_readsRank_24 : decode cX12_readsRank 24 = .ok (.iload_n 2, 1) := by decide +kernel
theorem dX12_readsRank_25 : decode cX12_readsRank 25 = .ok (.ifCond .eq 88, 3) := by decide +kernel
theorem dX12_readsRank_28 : decode cX12_readsRank 28 = .ok (.aload_n 0, 1) := by decide +kernel
theorem dX12_readsRank_29 : decode cX12_readsRank 29 = .ok (.iload_n 1, 1) := by decide +kernel
theorem dX12_readsRank_30 : decode cX12_readsRank 30 = .ok (.ifCond .ne 8, 3) := by decide +kernel
theorem dX12_readsRank_33 : decode cX12_readsRank 33 = .ok (.ldc 246, 2) := by decide +kernel
theorem dX12_readsRank_35 : decode cX12_readsRank 35 = .ok (.goto 15, 3) := by decide +kernel
theorem dX12_readsRank_38 : decode cX12_readsRank 38 = .ok (.iload_n 1, 1) := by decide +kernel
theorem dX12_readsRank_39 : decode cX12_readsRank 39 = .ok (.iconst 1, 1) := by decide +kernel
theorem dX12_readsRank_40 : decode cX12_readsRank 40 = .ok (.if_icmp .ne 8, 3) := by decide +kernel
theorem dX12_readsRank_43 : decode cX12_readsRank 43 = .ok (.ldc 248, 2) := by decide +kernel
theorem dX12_readsRank_45 : decode cX12_readsRank 45 = .ok (.goto 5, 3) := by decide +kernel
theorem dX12_readsRank_48 : decode cX12_readsRank 48 = .ok (.ldc 250, 2) := by decide +kernel
theorem dX12_readsRank_50 : decode cX12_readsRank 50 = .ok (.invokevirtual 183, 3) := by decide +kernel
theorem dX12_readsRank_53 : decode cX12_readsRank 53 = .ok (.istore_n 3, 1) := by decide +kernel
theorem dX12_readsRank_54 : decode cX12_readsRank 54 = .ok (.iload_n 3, 1) := by decide +kernel
theorem dX12_readsRank_55 : decode cX12_readsRank 55 = .ok (.ifCond .ge 5, 3) := by decide +kernel
theorem dX12_readsRank_58 : decode cX12_readsRank 58 = .ok (.iconst 1, 1) := by decide +kernel
theorem dX12_readsRank_59 : decode cX12_readsRank 59 = .ok (.ireturn, 1) := by decide +kernel
theorem dX12_readsRank_60 : decode cX12_readsRank 60 = .ok (.aload_n 0, 1) := by decide +kernel
theorem dX12_readsRank_61 : decode cX12_readsRank 61 = .ok (.iload_n 1, 1) := by decide +kernel
theorem dX12_readsRank_62 : decode cX12_readsRank 62 = .ok (.iconst 1, 1) := by decide +kernel
theorem dX12_readsRank_63 : decode cX12_readsRank 63 = .ok (.iadd, 1) := by decide +kernel
theorem dX12_readsRank_64 : decode cX12_readsRank 64 = .ok (.invokevirtual 243, 3) := by decide +kernel
theorem dX12_readsRank_67 : decode cX12_readsRank 67 = .ok (.ifCond .ne 5, 3) := by decide +kernel
theorem dX12_readsRank_70 : decode cX12_readsRank 70 = .ok (.iconst 0, 1) := by decide +kernel
theorem dX12_readsRank_71 : decode cX12_readsRank 71 = .ok (.ireturn, 1) := by decide +kernel
theorem dX12_readsRank_72 : decode cX12_readsRank 72 = .ok (.aload_n 0, 1) := by decide +kernel
theorem dX12_readsRank_73 : decode cX12_readsRank 73 = .ok (.sipush 2000, 3) := by decide +kernel
theorem dX12_readsRank_76 : decode cX12_readsRank 76 = .ok (.iload_n 3, 1) := by decide +kernel
theorem dX12_readsRank_77 : decode cX12_readsRank 77 = .ok (.iadd, 1) := by decide +kernel
theorem dX12_readsRank_78 : decode cX12_readsRank 78 = .ok (.iload_n 1, 1) := by decide +kernel
theorem dX12_readsRank_79 : decode cX12_readsRank 79 = .ok (.ifCond .ne 7, 3) := by decide +kernel
theorem dX12_readsRank_82 : decode cX12_readsRank 82 = .ok (.iconst 0, 1) := by decide +kernel
theorem dX12_readsRank_83 : decode cX12_readsRank 83 = .ok (.goto 13, 3) := by decide +kernel
theorem dX12_readsRank_86 : decode cX12_readsRank 86 = .ok (.iload_n 1, 1) := by decide +kernel
theorem dX12_readsRank_87 : decode cX12_readsRank 87 = .ok (.iconst 1, 1) := by decide +kernel
theorem dX12_readsRank_88 : decode cX12_readsRank 88 = .ok (.if_icmp .ne 7, 3) := by decide +kernel
theorem dX12_readsRank_91 : decode cX12_readsRank 91 = .ok (.iconst 3, 1) := by decide +kernel
theorem dX12_readsRank_92 : decode cX12_readsRank 92 = .ok (.goto 4, 3) := by decide +kernel
theorem dX12_readsRank_95 : decode cX12_readsRank 95 = .ok (.iconst 5, 1) := by decide +kernel
theorem dX12_readsRank_96 : decode cX12_readsRank 96 = .ok (.iadd, 1) := by decide +kernel
theorem dX12_readsRank_97 : decode cX12_readsRank 97 = .ok (.invokevirtual 234, 3) := by decide +kernel
theorem dX12_readsRank_100 : decode cX12_readsRank 100 = .ok (.iload_n 1, 1) := by decide +kernel
theorem dX12_readsRank_101 : decode cX12_readsRank 101 = .ok (.ifCond .le 7, 3) := by decide +kernel
theorem dX12_readsRank_104 : decode cX12_readsRank 104 = .ok (.iconst 1, 1) := by decide +kernel
theorem dX12_readsRank_105 : decode cX12_readsRank 105 = .ok (.goto 4, 3) := by decide +kernel
theorem dX12_readsRank_108 : decode cX12_readsRank 108 = .ok (.iconst 0, 1) := by decide +kernel
theorem dX12_readsRank_109 : decode cX12_readsRank 109 = .ok (.istore_n 2, 1) := by decide +kernel
theorem dX12_readsRank_110 : decode cX12_readsRank 110 = .ok (.goto (-86), 3) := by decide +kernel
theorem dX12_readsRank_113 : decode cX12_readsRank 113 = .ok (.iconst 1, 1) := by decide +kernel
theorem dX12_readsRank_114 : decode cX12_readsRank 114 = .ok (.ireturn, 1) := by decide +kernel
theorem dX12_readsThing_0 : decode cX12_readsThing 0 = .ok (.aload_n 0, 1) := by decide +kernel
theorem dX12_readsThing_1 : decode cX12_readsThing 1 = .ok (.bipush 45, 2) := by decide +kernel
theorem dX12_readsThing_3 : decode cX12_readsThing 3 = .ok (.invokevirtual 210, 3) := by decide +kernel
theorem dX12_readsThing_6 : decode cX12_readsThing 6 = .ok (.ifCond .eq 17, 3) := by decide +kernel
theorem dX12_readsThing_9 : decode cX12_readsThing 9 = .ok (.aload_n 0, 1) := by decide +kernel
theorem dX12_readsThing_10 : decode cX12_readsThing 10 = .ok (.invokevirtual 231, 3) := by decide +kernel
theorem dX12_readsThing_13 : decode cX12_readsThing 13 = .ok (.istore_n 1, 1) := by decide +kernel
theorem dX12_readsThing_14 : decode cX12_readsThing 14 = .ok (.aload_n 0, 1) := by decide +kernel
theorem dX12_readsThing_15 : decode cX12_readsThing 15 = .ok (.sipush 3000, 3) := by decide +kernel
theorem dX12_readsThing_18 : decode cX12_readsThing 18 = .ok (.invokevirtual 234, 3) := by decide +kernel
theorem dX12_readsThing_21 : decode cX12_readsThing 21 = .ok (.iload_n 1, 1) := by decide +kernel
theorem dX12_readsThing_22 : decode cX12_readsThing 22 = .ok (.ireturn, 1) := by decide +kernel
theorem dX12_readsThing_23 : decode cX12_readsThing 23 = .ok (.aload_n 0, 1) := by decide +kernel
theorem dX12_readsThing_24 : decode cX12_readsThing 24 = .ok (.invokevirtual 177, 3) := by decide +kernel
theorem dX12_readsThing_27 : decode cX12_readsThing 27 = .ok (.ifCond .eq 14, 3) := by decide +kernel
theorem dX12_readsThing_30 : decode cX12_readsThing 30 = .ok (.aload_n 0, 1) := by decide +kernel
theorem dX12_readsThing_31 : decode cX12_readsThing 31 = .ok (.aload_n 0, 1) := by decide +kernel
theorem dX12_readsThing_32 : decode cX12_readsThing 32 = .ok (.iconst 3, 1) := by decide +kernel
theorem dX12_readsThing_33 : decode cX12_readsThing 33 = .ok (.invokevirtual 238, 3) := by decide +kernel
theorem dX12_readsThing_36 : decode cX12_readsThing 36 = .ok (.invokevirtual 234, 3) := by decide +kernel
theorem dX12_readsThing_39 : decode cX12_readsThing 39 = .ok (.iconst 1, 1) := by decide +kernel
theorem dX12_readsThing_40 : decode cX12_readsThing 40 = .ok (.ireturn, 1) := by decide +kernel
theorem dX12_readsThing_41 : decode cX12_readsThing 41 = .ok (.aload_n 0, 1) := by decide +kernel
theorem dX12_readsThing_42 : decode cX12_readsThing 42 = .ok (.ldc 241, 2) := by decide +kernel
theorem dX12_readsThing_44 : decode cX12_readsThing 44 = .ok (.invokevirtual 183, 3) := by decide +kernel
theorem dX12_readsThing_47 : decode cX12_readsThing 47 = .ok (.istore_n 1, 1) := by decide +kernel
theorem dX12_readsThing_48 : decode cX12_readsThing 48 = .ok (.iload_n 1, 1) := by decide +kernel
theorem dX12_readsThing_49 : decode cX12_readsThing 49 = .ok (.ifCond .lt 14, 3) := by decide +kernel
theorem dX12_readsThing_52 : decode cX12_readsThing 52 = .ok (.aload_n 0, 1) := by decide +kernel
theorem dX12_readsThing_53 : decode cX12_readsThing 53 = .ok (.sipush 1000, 3) := by decide +kernel
theorem dX12_readsThing_56 : decode cX12_readsThing 56 = .ok (.iload_n 1, 1) := by decide +kernel
theorem dX12_readsThing_57 : decode cX12_readsThing 57 = .ok (.iadd, 1) := by decide +kernel
theorem dX12_readsThing_58 : decode cX12_readsThing 58 = .ok (.invokevirtual 234, 3) := by decide +kernel
theorem dX12_readsThing_61 : decode cX12_readsThing 61 = .ok (.iconst 1, 1) := by decide +kernel
theorem dX12_readsThing_62 : decode cX12_readsThing 62 = .ok (.ireturn, 1) := by decide +kernel
theorem dX12_readsThing_63 : decode cX12_readsThing 63 = .ok (.aload_n 0, 1) := by decide +kernel
theorem dX12_readsThing_64 : decode cX12_readsThing 64 = .ok (.getfield 143, 3) := by decide +kernel
theorem dX12_readsThing_67 : decode cX12_readsThing 67 = .ok (.iconst 4, 1) := by decide +kernel
theorem dX12_readsThing_68 : decode cX12_readsThing 68 = .ok (.if_icmp .eq 12, 3) := by decide +kernel
theorem dX12_readsThing_71 : decode cX12_readsThing 71 = .ok (.aload_n 0, 1) := by decide +kernel
theorem dX12_readsThing_72 : decode cX12_readsThing 72 = .ok (.bipush 40, 2) := by decide +kernel
theorem dX12_readsThing_74 : decode cX12_readsThing 74 = .ok (.invokevirtual 210, 3) := by decide +kernel
theorem dX12_readsThing_77 : decode cX12_readsThing 77 = .ok (.ifCond .ne 5, 3) := by decide +kernel
theorem dX12_readsThing_80 : decode cX12_readsThing 80 = .ok (.iconst 0, 1) := by decide +kernel
theorem dX12_readsThing_81 : decode cX12_readsThing 81 = .ok (.ireturn, 1) := by decide +kernel
theorem dX12_readsThing_82 : decode cX12_readsThing 82 = .ok (.aload_n 0, 1) := by decide +kernel
theorem dX12_readsThing_83 : decode cX12_readsThing 83 = .ok (.dup, 1) := by decide +kernel
theorem dX12_readsThing_84 : decode cX12_readsThing 84 = .ok (.getfield 143, 3) := by decide +kernel
theorem dX12_readsThing_87 : decode cX12_readsThing 87 = .ok (.iconst 1, 1) := by decide +kernel
theorem dX12_readsThing_88 : decode cX12_readsThing 88 = .ok (.iadd, 1) := by decide +kernel
theorem dX12_readsThing_89 : decode cX12_readsThing 89 = .ok (.putfield 143, 3) := by decide +kernel
theorem dX12_readsThing_92 : decode cX12_readsThing 92 = .ok (.aload_n 0, 1) := by decide +kernel
theorem dX12_readsThing_93 : decode cX12_readsThing 93 = .ok (.iconst 0, 1) := by decide +kernel
theorem dX12_readsThing_94 : decode cX12_readsThing 94 = .ok (.invokevirtual 243, 3) := by decide +kernel
theorem dX12_readsThing_97 : decode cX12_readsThing 97 = .ok (.ifCond .eq 12, 3) := by decide +kernel
theorem dX12_readsThing_100 : decode cX12_readsThing 100 = .ok (.aload_n 0, 1) := by decide +kernel
theorem dX12_readsThing_101 : decode cX12_readsThing 101 = .ok (.bipush 41, 2) := by decide +kernel
theorem dX12_readsThing_103 : decode cX12_readsThing 103 = .ok (.invokevirtual 210, 3) := by decide +kernel
theorem dX12_readsThing_106 : decode cX12_readsThing 106 = .ok (.ifCond .ne 5, 3) := by decide +kernel
theorem dX12_readsThing_109 : decode cX12_readsThing 109 = .ok (.iconst 0, 1) := by decide +kernel
theorem dX12_readsThing_110 : decode cX12_readsThing 110 = .ok (.ireturn, 1) := by decide +kernel
theorem dX12_readsThing_111 : decode cX12_readsThing 111 = .ok (.aload_n 0, 1) := by decide +kernel
theorem dX12_readsThing_112 : decode cX12_readsThing 112 = .ok (.dup, 1) := by decide +kernel
theorem dX12_readsThing_113 : decode cX12_readsThing 113 = .ok (.getfield 143, 3) := by decide +kernel
theorem dX12_readsThing_116 : decode cX12_readsThing 116 = .ok (.iconst 1, 1) := by decide +kernel
theorem dX12_readsThing_117 : decode cX12_readsThing 117 = .ok (.isub, 1) := by decide +kernel
theorem dX12_readsThing_118 : decode cX12_readsThing 118 = .ok (.putfield 143, 3) := by decide +kernel
theorem dX12_readsThing_121 : decode cX12_readsThing 121 = .ok (.iconst 1, 1) := by decide +kernel
theorem dX12_readsThing_122 : decode cX12_readsThing 122 = .ok (.ireturn, 1) := by decide +kernel
theorem dX12_round_0 : decode cX12_round 0 = .ok (.aload_n 0, 1) := by decide +kernel
theorem dX12_round_1 : decode cX12_round 1 = .ok (.iconst 0, 1) := by decide +kernel
theorem dX12_round_2 : decode cX12_round 2 = .ok (.putfield 111, 3) := by decide +kernel
theorem dX12_round_5 : decode cX12_round 5 = .ok (.aload_n 0, 1) := by decide +kernel
theorem dX12_round_6 : decode cX12_round 6 = .ok (.iload_n 1, 1) := by decide +kernel
theorem dX12_round_7 : decode cX12_round 7 = .ok (.invokevirtual 133, 3) := by decide +kernel
theorem dX12_round_10 : decode cX12_round 10 = .ok (.ifCond .ne 5, 3) := by decide +kernel
theorem dX12_round_13 : decode cX12_round 13 = .ok (.iconst (-1), 1) := by decide +kernel
theorem dX12_round_14 : decode cX12_round 14 = .ok (.ireturn, 1) := by decide +kernel
theorem dX12_round_15 : decode cX12_round 15 = .ok (.aload_n 0, 1) := by decide +kernel
theorem dX12_round_16 : decode cX12_round 16 = .ok (.invokevirtual 409, 3) := by decide +kernel
theorem dX12_round_19 : decode cX12_round 19 = .ok (.aload_n 0, 1) := by decide +kernel
theorem dX12_round_20 : decode cX12_round 20 = .ok (.iconst 1, 1) := by decide +kernel
theorem dX12_round_21 : decode cX12_round 21 = .ok (.putfield 283, 3) := by decide +kernel
theorem dX12_round_24 : decode cX12_round 24 = .ok (.aload_n 0, 1) := by decide +kernel
theorem dX12_round_25 : decode cX12_round 25 = .ok (.iload_n 1, 1) := by decide +kernel
theorem dX12_round_26 : decode cX12_round 26 = .ok (.putfield 297, 3) := by decide +kernel
theorem dX12_round_29 : decode cX12_round 29 = .ok (.aload_n 0, 1) := by decide +kernel
theorem dX12_round_30 : decode cX12_round 30 = .ok (.iconst 0, 1) := by decide +kernel
theorem dX12_round_31 : decode cX12_round 31 = .ok (.putfield 294, 3) := by decide +kernel
theorem dX12_round_34 : decode cX12_round 34 = .ok (.aload_n 0, 1) := by decide +kernel
theorem dX12_round_35 : decode cX12_round 35 = .ok (.iload_n 1, 1) := by decide +kernel
theorem dX12_round_36 : decode cX12_round 36 = .ok (.bipush 99, 2) := by decide +kernel
theorem dX12_round_38 : decode cX12_round 38 = .ok (.bipush 9, 2) := by decide +kernel
theorem dX12_round_40 : decode cX12_round 40 = .ok (.iconst 0, 1) := by decide +kernel
theorem dX12_round_41 : decode cX12_round 41 = .ok (.invokevirtual 395, 3) := by decide +kernel
theorem dX12_round_44 : decode cX12_round 44 = .ok (.iconst (-1), 1) := by decide +kernel
theorem dX12_round_45 : decode cX12_round 45 = .ok (.istore_n 2, 1) := by decide +kernel
theorem dX12_round_46 : decode cX12_round 46 = .ok (.iconst (-1), 1) := by decide +kernel
theorem dX12_round_47 : decode cX12_round 47 = .ok (.istore_n 3, 1) := by decide +kernel
theorem dX12_round_48 : decode cX12_round 48 = .ok (.iconst 1, 1) := by decide +kernel
theorem dX12_round_49 : decode cX12_round 49 = .ok (.istore 4, 2) := by decide +kernel
theorem dX12_round_51 : decode cX12_round 51 = .ok (.iload 4, 2) := by decide +kernel
theorem dX12_round_53 : decode cX12_round 53 = .ok (.sipush 300, 3) := by decide +kernel
theorem dX12_round_56 : decode cX12_round 56 = .ok (.if_icmp .gt 76, 3) := by decide +kernel
theorem dX12_round_59 : decode cX12_round 59 = .ok (.iload_n 3, 1) := by decide +kernel
theorem dX12_round_60 : decode cX12_round 60 = .ok (.ifCond .ge 72, 3) := by decide +kernel
theorem dX12_round_63 : decode cX12_round 63 = .ok (.aload_n 0, 1) := by decide +kernel
theorem dX12_round_64 : decode cX12_round 64 = .ok (.aload_n 0, 1) := by decide +kernel
theorem dX12_round_65 : decode cX12_round 65 = .ok (.getfield 83, 3) := by decide +kernel
theorem dX12_round_68 : decode cX12_round 68 = .ok (.invokevirtual 349, 3) := by decide +kernel
theorem dX12_round_71 : decode cX12_round 71 = .ok (.aload_n 0, 1) := by decide +kernel
theorem dX12_round_72 : decode cX12_round 72 = .ok (.getfield 294, 3) := by decide +kernel
theorem dX12_round_75 : decode cX12_round 75 = .ok (.ifCond .eq 51, 3) := by decide +kernel
theorem dX12_round_78 : decode cX12_round 78 = .ok (.aload_n 0, 1) := by decide +kernel
theorem dX12_round_79 : decode cX12_round 79 = .ok (.getfield 83, 3) := by decide +kernel
theorem dX12_round_82 : decode cX12_round 82 = .ok (.iconst 4, 1) := by decide +kernel
theorem dX12_round_83 : decode cX12_round 83 = .ok (.iaload, 1) := by decide +kernel
theorem dX12_round_84 : decode cX12_round 84 = .ok (.ifCond .ne 42, 3) := by decide +kernel
theorem dX12_round_87 : decode cX12_round 87 = .ok (.aload_n 0, 1) := by decide +kernel
theorem dX12_round_88 : decode cX12_round 88 = .ok (.getfield 83, 3) := by decide +kernel
theorem dX12_round_91 : decode cX12_round 91 = .ok (.iconst 0, 1) := by decide +kernel
theorem dX12_round_92 : decode cX12_round 92 = .ok (.iaload, 1) := by decide +kernel
theorem dX12_round_93 : decode cX12_round 93 = .ok (.iload_n 1, 1) := by decide +kernel
theorem dX12_round_94 : decode cX12_round 94 = .ok (.if_icmp .ne 32, 3) := by decide +kernel
theorem dX12_round_97 : decode cX12_round 97 = .ok (.iload_n 2, 1) := by decide +kernel
theorem dX12_round_98 : decode cX12_round 98 = .ok (.ifCond .ge 7, 3) := by decide +kernel
theorem dX12_round_101 : decode cX12_round 101 = .ok (.iload_n 3, 1) := by decide +kernel
theorem dX12_round_102 : decode cX12_round 102 = .ok (.goto 7, 3) := by decide +kernel
theorem dX12_round_105 : decode cX12_round 105 = .ok (.iload 4, 2) := by decide +kernel
theorem dX12_round_107 : decode cX12_round 107 = .ok (.iload_n 2, 1) := by decide +kernel
theorem dX12_round_108 : decode cX12_round 108 = .ok (.isub, 1) := by decide +kernel
theorem dX12_round_109 : decode cX12_round 109 = .ok (.istore_n 3, 1) := by decide +kernel
theorem dX12_round_110 : decode cX12_round 110 = .ok (.iload_n 2, 1) := by decide +kernel
theorem dX12_round_111 : decode cX12_round 111 = .ok (.ifCond .ge 8, 3) := by decide +kernel
theorem dX12_round_114 : decode cX12_round 114 = .ok (.iload 4, 2) := by decide +kernel
theorem dX12_round_116 : decode cX12_round 116 = .ok (.goto 4, 3) := by decide +kernel
theorem dX12_round_119 : decode cX12_round 119 = .ok (.iload_n 2, 1) := by decide +kernel
theorem dX12_round_120 : decode cX12_round 120 = .ok (.istore_n 2, 1) := by decide +kernel
theorem dX12_round_121 : decode cX12_round 121 = .ok (.aload_n 0, 1) := by decide +kernel
theorem dX12_round_122 : decode cX12_round 122 = .ok (.iconst 0, 1) := by decide +kernel
theorem dX12_round_123 : decode cX12_round 123 = .ok (.putfield 294, 3) := by decide +kernel
theorem dX12_round_126 : decode cX12_round 126 = .ok (.iinc 4 1, 3) := by decide +kernel
theorem dX12_round_129 : decode cX12_round 129 = .ok (.goto (-78), 3) := by decide +kernel
theorem dX12_round_132 : decode cX12_round 132 = .ok (.aload_n 0, 1) := by decide +kernel
theorem dX12_round_133 : decode cX12_round 133 = .ok (.iconst 0, 1) := by decide +kernel
theorem dX12_round_134 : decode cX12_round 134 = .ok (.putfield 283, 3) := by decide +kernel
theorem dX12_round_137 : decode cX12_round 137 = .ok (.iload_n 2, 1) := by decide +kernel
theorem dX12_round_138 : decode cX12_round 138 = .ok (.ifCond .ge 6, 3) := by decide +kernel
theorem dX12_round_141 : decode cX12_round 141 = .ok (.bipush (-2), 2) := by decide +kernel
theorem dX12_round_143 : decode cX12_round 143 = .ok (.ireturn, 1) := by decide +kernel
theorem dX12_round_144 : decode cX12_round 144 = .ok (.aload_n 0, 1) := by decide +kernel
theorem dX12_round_145 : decode cX12_round 145 = .ok (.iconst 0, 1) := by decide +kernel
theorem dX12_round_146 : decode cX12_round 146 = .ok (.putfield 119, 3) := by decide +kernel
theorem dX12_round_149 : decode cX12_round 149 = .ok (.aload_n 0, 1) := by decide +kernel
theorem dX12_round_150 : decode cX12_round 150 = .ok (.iload_n 3, 1) := by decide +kernel
theorem dX12_round_151 : decode cX12_round 151 = .ok (.i2l, 1) := by decide +kernel
theorem dX12_round_152 : decode cX12_round 152 = .ok (.invokevirtual 122, 3) := by decide +kernel
theorem dX12_round_155 : decode cX12_round 155 = .ok (.iload_n 2, 1) := by decide +kernel
theorem dX12_round_156 : decode cX12_round 156 = .ok (.ireturn, 1) := by decide +kernel
theorem dX12_row_0 : decode cX12_row 0 = .ok (.aload_n 0, 1) := by decide +kernel
theorem dX12_row_1 : decode cX12_row 1 = .ok (.iconst 0, 1) := by decide +kernel
theorem dX12_row_2 : decode cX12_row 2 = .ok (.putfield 111, 3) := by decide +kernel
theorem dX12_row_5 : decode cX12_row 5 = .ok (.iload_n 1, 1) := by decide +kernel
theorem dX12_row_6 : decode cX12_row 6 = .ok (.i2l, 1) := by decide +kernel
theorem dX12_row_7 : decode cX12_row 7 = .ok (.lconst 0, 1) := by decide +kernel
theorem dX12_row_8 : decode cX12_row 8 = .ok (.aload_n 0, 1) := by decide +kernel
theorem dX12_row_9 : decode cX12_row 9 = .ok (.getfield 119, 3) := by decide +kernel
theorem dX12_row_12 : decode cX12_row 12 = .ok (.iconst 1, 1) := by decide +kernel
theorem dX12_row_13 : decode cX12_row 13 = .ok (.isub, 1) := by decide +kernel
theorem dX12_row_14 : decode cX12_row 14 = .ok (.i2l, 1) := by decide +kernel
theorem dX12_row_15 : decode cX12_row 15 = .ok (.invokestatic 129, 3) := by decide +kernel
theorem dX12_row_18 : decode cX12_row 18 = .ok (.ifCond .ne 10, 3) := by decide +kernel
theorem dX12_row_21 : decode cX12_row 21 = .ok (.aload_n 0, 1) := by decide +kernel
theorem dX12_row_22 : decode cX12_row 22 = .ok (.iconst 1, 1) := by decide +kernel
theorem dX12_row_23 : decode cX12_row 23 = .ok (.putfield 111, 3) := by decide +kernel
theorem dX12_row_26 : decode cX12_row 26 = .ok (.lconst 0, 1) := by decide +kernel
theorem dX12_row_27 : decode cX12_row 27 = .ok (.lreturn, 1) := by decide +kernel
theorem dX12_row_28 : decode cX12_row 28 = .ok (.aload_n 0, 1) := by decide +kernel
theorem dX12_row_29 : decode cX12_row 29 = .ok (.getfield 9, 3) := by decide +kernel
theorem dX12_row_32 : decode cX12_row 32 = .ok (.iload_n 1, 1) := by decide +kernel
theorem dX12_row_33 : decode cX12_row 33 = .ok (.laload, 1) := by decide +kernel
theorem dX12_row_34 : decode cX12_row 34 = .ok (.lreturn, 1) := by decide +kernel
theorem dX12_rule_0 : decode cX12_rule 0 = .ok (.aload_n 0, 1) := by decide +kernel
theorem dX12_rule_1 : decode cX12_rule 1 = .ok (.iconst 0, 1) := by decide +kernel
theorem dX12_rule_2 : decode cX12_rule 2 = .ok (.putfield 111, 3) := by decide +kernel
theorem dX12_rule_5 : decode cX12_rule 5 = .ok (.aload_n 0, 1) := by decide +kernel
theorem dX12_rule_6 : decode cX12_rule 6 = .ok (.bipush 40, 2) := by decide +kernel
theorem dX12_rule_8 : decode cX12_rule 8 = .ok (.invokevirtual 203, 3) := by decide +kernel
theorem dX12_rule_11 : decode cX12_rule 11 = .ok (.istore_n 1, 1) := by decide +kernel
theorem dX12_rule_12 : decode cX12_rule 12 = .ok (.aload_n 0, 1) := by decide +kernel
theorem dX12_rule_13 : decode cX12_rule 13 = .ok (.iconst 0, 1) := by decide +kernel
theorem dX12_rule_14 : decode cX12_rule 14 = .ok (.putfield 228, 3) := by decide +kernel
theorem dX12_rule_17 : decode cX12_rule 17 = .ok (.iload_n 1, 1) := by decide +kernel
theorem dX12_rule_18 : decode cX12_rule 18 = .ok (.ifCond .eq 11, 3) := by decide +kernel
theorem dX12_rule_21 : decode cX12_rule 21 = .ok (.aload_n 0, 1) := by decide +kernel
theorem dX12_rule_22 : decode cX12_rule 22 = .ok (.iconst 0, 1) := by decide +kernel
theorem dX12_rule_23 : decode cX12_rule 23 = .ok (.invokevirtual 243, 3) := by decide +kernel
theorem dX12_rule_26 : decode cX12_rule 26 = .ok (.ifCond .eq 7, 3) := by decide +kernel
theorem dX12_rule_29 : decode cX12_rule 29 = .ok (.iconst 1, 1) := by decide +kernel
theorem dX12_rule_30 : decode cX12_rule 30 = .ok (.goto 4, 3) := by decide +kernel
theorem dX12_rule_33 : decode cX12_rule 33 = .ok (.iconst 0, 1) := by decide +kernel
theorem dX12_rule_34 : decode cX12_rule 34 = .ok (.istore_n 2, 1) := by decide +kernel
theorem dX12_rule_35 : decode cX12_rule 35 = .ok (.aload_n 0, 1) := by decide +kernel
theorem dX12_rule_36 : decode cX12_rule 36 = .ok (.iload_n 1, 1) := by decide +kernel
theorem dX12_rule_37 : decode cX12_rule 37 = .ok (.bipush 40, 2) := by decide +kernel
theorem dX12_rule_39 : decode cX12_rule 39 = .ok (.iload_n 2, 1) := by decide +kernel
theorem dX12_rule_40 : decode cX12_rule 40 = .ok (.invokevirtual 213, 3) := by decide +kernel
theorem dX12_rule_43 : decode cX12_rule 43 = .ok (.istore_n 3, 1) := by decide +kernel
theorem dX12_rule_44 : decode cX12_rule 44 = .ok (.iload_n 3, 1) := by decide +kernel
theorem dX12_rule_45 : decode cX12_rule 45 = .ok (.ifCond .ge 5, 3) := by decide +kernel
theorem dX12_rule_48 : decode cX12_rule 48 = .ok (.iload_n 3, 1) := by decide +kernel
theorem dX12_rule_49 : decode cX12_rule 49 = .ok (.ireturn, 1) := by decide +kernel
theorem dX12_rule_50 : decode cX12_rule 50 = .ok (.aload_n 0, 1) := by decide +kernel
theorem dX12_rule_51 : decode cX12_rule 51 = .ok (.aload_n 0, 1) := by decide +kernel
theorem dX12_rule_52 : decode cX12_rule 52 = .ok (.getfield 228, 3) := by decide +kernel
theorem dX12_rule_55 : decode cX12_rule 55 = .ok (.putfield 252, 3) := by decide +kernel
theorem dX12_rule_58 : decode cX12_rule 58 = .ok (.iconst 0, 1) := by decide +kernel
theorem dX12_rule_59 : decode cX12_rule 59 = .ok (.istore 4, 2) := by decide +kernel
theorem dX12_rule_61 : decode cX12_rule 61 = .ok (.iload 4, 2) := by decide +kernel
theorem dX12_rule_63 : decode cX12_rule 63 = .ok (.aload_n 0, 1) := by decide +kernel
theorem dX12_rule_64 : decode cX12_rule 64 = .ok (.getfield 228, 3) := by decide +kernel
theorem dX12_rule_67 : decode cX12_rule 67 = .ok (.if_icmp .ge 23, 3) := by decide +kernel
theorem dX12_rule_70 : decode cX12_rule 70 = .ok (.aload_n 0, 1) := by decide +kernel
theorem dX12_rule_71 : decode cX12_rule 71 = .ok (.getfield 59, 3) := by decide +kernel
theorem dX12_rule_74 : decode cX12_rule 74 = .ok (.iload 4, 2) := by decide +kernel
theorem dX12_rule_76 : decode cX12_rule 76 = .ok (.aload_n 0, 1) := by decide +kernel
theorem dX12_rule_77 : decode cX12_rule 77 = .ok (.getfield 62, 3) := by decide +kernel
theorem dX12_rule_80 : decode cX12_rule 80 = .ok (.iload 4, 2) := by decide +kernel
theorem dX12_rule_82 : decode cX12_rule 82 = .ok (.iaload, 1) := by decide +kernel
theorem dX12_rule_83 : decode cX12_rule 83 = .ok (.iastore, 1) := by decide +kernel
theorem dX12_rule_84 : decode cX12_rule 84 = .ok (.iinc 4 1, 3) := by decide +kernel
theorem dX12_rule_87 : decode cX12_rule 87 = .ok (.goto (-26), 3) := by decide +kernel
theorem dX12_rule_90 : decode cX12_rule 90 = .ok (.iconst 0, 1) := by decide +kernel
theorem dX12_rule_91 : decode cX12_rule 91 = .ok (.ireturn, 1) := by decide +kernel
theorem dX12_run_0 : decode cX12_run 0 = .ok (.aload_n 0, 1) := by decide +kernel
theorem dX12_run_1 : decode cX12_run 1 = .ok (.iconst 0, 1) := by decide +kernel
theorem dX12_run_2 : decode cX12_run 2 = .ok (.putfield 111, 3) := by decide +kernel
theorem dX12_run_5 : decode cX12_run 5 = .ok (.iload_n 1, 1) := by decide +kernel
theorem dX12_run_6 : decode cX12_run 6 = .ok (.i2l, 1) := by decide +kernel
theorem dX12_run_7 : decode cX12_run 7 = .ok (.lconst 0, 1) := by decide +kernel
theorem dX12_run_8 : decode cX12_run 8 = .ok (.ldc2_w 327, 3) := by decide +kernel
theorem dX12_run_11 : decode cX12_run 11 = .ok (.invokestatic 129, 3) := by decide +kernel
theorem dX12_run_14 : decode cX12_run 14 = .ok (.ifCond .ne 5, 3) := by decide +kernel
theorem dX12_run_17 : decode cX12_run 17 = .ok (.iconst (-1), 1) := by decide +kernel
theorem dX12_run_18 : decode cX12_run 18 = .ok (.ireturn, 1) := by decide +kernel
theorem dX12_run_19 : decode cX12_run 19 = .ok (.aload_n 0, 1) := by decide +kernel
theorem dX12_run_20 : decode cX12_run 20 = .ok (.invokevirtual 319, 3) := by decide +kernel
theorem dX12_run_23 : decode cX12_run 23 = .ok (.aload_n 0, 1) := by decide +kernel
theorem dX12_run_24 : decode cX12_run 24 = .ok (.getfield 29, 3) := by decide +kernel
theorem dX12_run_27 : decode cX12_run 27 = .ok (.iconst 1, 1) := by decide +kernel
theorem dX12_run_28 : decode cX12_run 28 = .ok (.invokestatic 346, 3) := by decide +kernel
theorem dX12_run_31 : decode cX12_run 31 = .ok (.istore_n 2, 1) := by decide +kernel
theorem dX12_run_32 : decode cX12_run 32 = .ok (.aload_n 0, 1) := by decide +kernel
theorem dX12_run_33 : decode cX12_run 33 = .ok (.getfield 29, 3) := by decide +kernel
theorem dX12_run_36 : decode cX12_run 36 = .ok (.iconst 2, 1) := by decide +kernel
theorem dX12_run_37 : decode cX12_run 37 = .ok (.invokestatic 346, 3) := by decide +kernel
theorem dX12_run_40 : decode cX12_run 40 = .ok (.istore_n 3, 1) := by decide +kernel
theorem dX12_run_41 : decode cX12_run 41 = .ok (.iconst 0, 1) := by decide +kernel
theorem dX12_run_42 : decode cX12_run 42 = .ok (.istore 4, 2) := by decide +kernel
theorem dX12_run_44 : decode cX12_run 44 = .ok (.iload 4, 2) := by decide +kernel
theorem dX12_run_46 : decode cX12_run 46 = .ok (.iload_n 1, 1) := by decide +kernel
theorem dX12_run_47 : decode cX12_run 47 = .ok (.if_icmp .ge 17, 3) := by decide +kernel
theorem dX12_run_50 : decode cX12_run 50 = .ok (.aload_n 0, 1) := by decide +kernel
theorem dX12_run_51 : decode cX12_run 51 = .ok (.aload_n 0, 1) := by decide +kernel
theorem dX12_run_52 : decode cX12_run 52 = .ok (.getfield 29, 3) := by decide +kernel
theorem dX12_run_55 : decode cX12_run 55 = .ok (.invokevirtual 349, 3) := by decide +kernel
theorem dX12_run_58 : decode cX12_run 58 = .ok (.iinc 4 1, 3) := by decide +kernel
theorem dX12_run_61 : decode cX12_run 61 = .ok (.goto (-17), 3) := by decide +kernel
theorem dX12_run_64 : decode cX12_run 64 = .ok (.aload_n 0, 1) := by decide +kernel
theorem dX12_run_65 : decode cX12_run 65 = .ok (.iconst 0, 1) := by decide +kernel
theorem dX12_run_66 : decode cX12_run 66 = .ok (.putfield 119, 3) := by decide +kernel
theorem dX12_run_69 : decode cX12_run 69 = .ok (.aload_n 0, 1) := by decide +kernel
theorem dX12_run_70 : decode cX12_run 70 = .ok (.aload_n 0, 1) := by decide +kernel
theorem dX12_run_71 : decode cX12_run 71 = .ok (.getfield 29, 3) := by decide +kernel
theorem dX12_run_74 : decode cX12_run 74 = .ok (.iconst 1, 1) := by decide +kernel
theorem dX12_run_75 : decode cX12_run 75 = .ok (.invokestatic 346, 3) := by decide +kernel
theorem dX12_run_78 : decode cX12_run 78 = .ok (.iload_n 2, 1) := by decide +kernel
theorem dX12_run_79 : decode cX12_run 79 = .ok (.iconst (-1), 1) := by decide +kernel
theorem dX12_run_80 : decode cX12_run 80 = .ok (.ixor, 1) := by decide +kernel
theorem dX12_run_81 : decode cX12_run 81 = .ok (.iand, 1) := by decide +kernel
theorem dX12_run_82 : decode cX12_run 82 = .ok (.i2l, 1) := by decide +kernel
theorem dX12_run_83 : decode cX12_run 83 = .ok (.invokevirtual 122, 3) := by decide +kernel
theorem dX12_run_86 : decode cX12_run 86 = .ok (.aload_n 0, 1) := by decide +kernel
theorem dX12_run_87 : decode cX12_run 87 = .ok (.aload_n 0, 1) := by decide +kernel
theorem dX12_run_88 : decode cX12_run 88 = .ok (.getfield 29, 3) := by decide +kernel
theorem dX12_run_91 : decode cX12_run 91 = .ok (.iconst 2, 1) := by decide +kernel
theorem dX12_run_92 : decode cX12_run 92 = .ok (.invokestatic 346, 3) := by decide +kernel
theorem dX12_run_95 : decode cX12_run 95 = .ok (.iload_n 3, 1) := by decide +kernel
theorem dX12_run_96 : decode cX12_run 96 = .ok (.iconst (-1), 1) := by decide +kernel
theorem dX12_run_97 : decode cX12_run 97 = .ok (.ixor, 1) := by decide +kernel
theorem dX12_run_98 : decode cX12_run 98 = .ok (.iand, 1) := by decide +kernel
theorem dX12_run_99 : decode cX12_run 99 = .ok (.i2l, 1) := by decide +kernel
theorem dX12_run_100 : decode cX12_run 100 = .ok (.invokevirtual 122, 3) := by decide +kernel
theorem dX12_run_103 : decode cX12_run 103 = .ok (.aload_n 0, 1) := by decide +kernel
theorem dX12_run_104 : decode cX12_run 104 = .ok (.getfield 29, 3) := by decide +kernel
theorem dX12_run_107 : decode cX12_run 107 = .ok (.iconst 1, 1) := by decide +kernel
theorem dX12_run_108 : decode cX12_run 108 = .ok (.invokestatic 346, 3) := by decide +kernel
theorem dX12_run_111 : decode cX12_run 111 = .ok (.iload_n 2, 1) := by decide +kernel
theorem dX12_run_112 : decode cX12_run 112 = .ok (.iconst (-1), 1) := by decide +kernel
theorem dX12_run_113 : decode cX12_run 113 = .ok (.ixor, 1) := by decide +kernel
theorem dX12_run_114 : decode cX12_run 114 = .ok (.iand, 1) := by decide +kernel
theorem dX12_run_115 : decode cX12_run 115 = .ok (.invokestatic 353, 3) := by decide +kernel
theorem dX12_run_118 : decode cX12_run 118 = .ok (.istore 4, 2) := by decide +kernel
theorem dX12_run_120 : decode cX12_run 120 = .ok (.iload_n 1, 1) := by decide +kernel
theorem dX12_run_121 : decode cX12_run 121 = .ok (.ifCond .le 12, 3) := by decide +kernel
theorem dX12_run_124 : decode cX12_run 124 = .ok (.aload_n 0, 1) := by decide +kernel
theorem dX12_run_125 : decode cX12_run 125 = .ok (.iload 4, 2) := by decide +kernel
theorem dX12_run_127 : decode cX12_run 127 = .ok (.invokevirtual 322, 3) := by decide +kernel
theorem dX12_run_130 : decode cX12_run 130 = .ok (.goto 5, 3) := by decide +kernel
theorem dX12_run_133 : decode cX12_run 133 = .ok (.iload 4, 2) := by decide +kernel
theorem dX12_run_135 : decode cX12_run 135 = .ok (.ireturn, 1) := by decide +kernel
theorem dX12_sail_0 : decode cX12_sail 0 = .ok (.aload_n 0, 1) := by decide +kernel
theorem dX12_sail_1 : decode cX12_sail 1 = .ok (.iconst 0, 1) := by decide +kernel
theorem dX12_sail_2 : decode cX12_sail 2 = .ok (.putfield 111, 3) := by decide +kernel
theorem dX12_sail_5 : decode cX12_sail 5 = .ok (.aload_n 0, 1) := by decide +kernel
theorem dX12_sail_6 : decode cX12_sail 6 = .ok (.iload_n 1, 1) := by decide +kernel
theorem dX12_sail_7 : decode cX12_sail 7 = .ok (.iload_n 2, 1) := by decide +kernel
theorem dX12_sail_8 : decode cX12_sail 8 = .ok (.iload_n 3, 1) := by decide +kernel
theorem dX12_sail_9 : decode cX12_sail 9 = .ok (.iload 5, 2) := by decide +kernel
theorem dX12_sail_11 : decode cX12_sail 11 = .ok (.invokevirtual 405, 3) := by decide +kernel
theorem dX12_sail_14 : decode cX12_sail 14 = .ok (.ifCond .eq 16, 3) := by decide +kernel
theorem dX12_sail_17 : decode cX12_sail 17 = .ok (.iload 4, 2) := by decide +kernel
theorem dX12_sail_19 : decode cX12_sail 19 = .ok (.i2l, 1) := by decide +kernel
theorem dX12_sail_20 : decode cX12_sail 20 = .ok (.lconst 0, 1) := by decide +kernel
theorem dX12_sail_21 : decode cX12_sail 21 = .ok (.ldc2_w 327, 3) := by decide +kernel
theorem dX12_sail_24 : decode cX12_sail 24 = .ok (.invokestatic 129, 3) := by decide +kernel
theorem dX12_sail_27 : decode cX12_sail 27 = .ok (.ifCond .ne 5, 3) := by decide +kernel
theorem dX12_sail_30 : decode cX12_sail 30 = .ok (.iconst (-1), 1) := by decide +kernel
theorem dX12_sail_31 : decode cX12_sail 31 = .ok (.ireturn, 1) := by decide +kernel
theorem dX12_sail_32 : decode cX12_sail 32 = .ok (.aload_n 0, 1) := by decide +kernel
theorem dX12_sail_33 : decode cX12_sail 33 = .ok (.invokevirtual 409, 3) := by decide +kernel
theorem dX12_sail_36 : decode cX12_sail 36 = .ok (.aload_n 0, 1) := by decide +kernel
theorem dX12_sail_37 : decode cX12_sail 37 = .ok (.iload_n 1, 1) := by decide +kernel
theorem dX12_sail_38 : decode cX12_sail 38 = .ok (.iload_n 2, 1) := by decide +kernel
theorem dX12_sail_39 : decode cX12_sail 39 = .ok (.iload_n 3, 1) := by decide +kernel
theorem dX12_sail_40 : decode cX12_sail 40 = .ok (.iload 4, 2) := by decide +kernel
theorem dX12_sail_42 : decode cX12_sail 42 = .ok (.iload 5, 2) := by decide +kernel
theorem dX12_sail_44 : decode cX12_sail 44 = .ok (.invokevirtual 412, 3) := by decide +kernel
theorem dX12_sail_47 : decode cX12_sail 47 = .ok (.ireturn, 1) := by decide +kernel
theorem dX12_save_0 : decode cX12_save 0 = .ok (.aload_n 0, 1) := by decide +kernel
theorem dX12_save_1 : decode cX12_save 1 = .ok (.iconst 0, 1) := by decide +kernel
theorem dX12_save_2 : decode cX12_save 2 = .ok (.putfield 111, 3) := by decide +kernel
theorem dX12_save_5 : decode cX12_save 5 = .ok (.iload_n 1, 1) := by decide +kernel
theorem dX12_save_6 : decode cX12_save 6 = .ok (.i2l, 1) := by decide +kernel
theorem dX12_save_7 : decode cX12_save 7 = .ok (.lconst 0, 1) := by decide +kernel
theorem dX12_save_8 : decode cX12_save 8 = .ok (.iconst 1, 1) := by decide +kernel
theorem dX12_save_9 : decode cX12_save 9 = .ok (.aload_n 0, 1) := by decide +kernel
theorem dX12_save_10 : decode cX12_save 10 = .ok (.getfield 29, 3) := by decide +kernel
theorem dX12_save_13 : decode cX12_save 13 = .ok (.bipush 44, 2) := by decide +kernel
theorem dX12_save_15 : decode cX12_save 15 = .ok (.iaload, 1) := by decide +kernel
theorem dX12_save_16 : decode cX12_save 16 = .ok (.ishl, 1) := by decide +kernel
theorem dX12_save_17 : decode cX12_save 17 = .ok (.iconst 1, 1) := by decide +kernel
theorem dX12_save_18 : decode cX12_save 18 = .ok (.isub, 1) := by decide +kernel
theorem dX12_save_19 : decode cX12_save 19 = .ok (.i2l, 1) := by decide +kernel
theorem dX12_save_20 : decode cX12_save 20 = .ok (.invokestatic 129, 3) := by decide +kernel
theorem dX12_save_23 : decode cX12_save 23 = .ok (.ifCond .eq 13, 3) := by decide +kernel
theorem dX12_save_26 : decode cX12_save 26 = .ok (.aload_n 0, 1) := by decide +kernel
theorem dX12_save_27 : decode cX12_save 27 = .ok (.iload_n 1, 1) := by decide +kernel
theorem dX12_save_28 : decode cX12_save 28 = .ok (.iconst (-1), 1) := by decide +kernel
theorem dX12_save_29 : decode cX12_save 29 = .ok (.iconst 0, 1) := by decide +kernel
theorem dX12_save_30 : decode cX12_save 30 = .ok (.invokevirtual 422, 3) := by decide +kernel
theorem dX12_save_33 : decode cX12_save 33 = .ok (.goto 4, 3) := by decide +kernel
theorem dX12_save_36 : decode cX12_save 36 = .ok (.iconst (-1), 1) := by decide +kernel
theorem dX12_save_37 : decode cX12_save 37 = .ok (.ireturn, 1) := by decide +kernel
theorem dX12_saves_0 : decode cX12_saves 0 = .ok (.aload_n 0, 1) := by decide +kernel
theorem dX12_saves_1 : decode cX12_saves 1 = .ok (.invokevirtual 416, 3) := by decide +kernel
theorem dX12_saves_4 : decode cX12_saves 4 = .ok (.istore 4, 2) := by decide +kernel
theorem dX12_saves_6 : decode cX12_saves 6 = .ok (.iconst (-1), 1) := by decide +kernel
theorem dX12_saves_7 : decode cX12_saves 7 = .ok (.istore 5, 2) := by decide +kernel
theorem dX12_saves_9 : decode cX12_saves 9 = .ok (.iconst 0, 1) := by decide +kernel
theorem dX12_saves_10 : decode cX12_saves 10 = .ok (.istore 6, 2) := by decide +kernel
theorem dX12_saves_12 : decode cX12_saves 12 = .ok (.iconst 0, 1) := by decide +kernel
theorem dX12_saves_13 : decode cX12_saves 13 = .ok (.istore 7, 2) := by decide +kernel
theorem dX12_saves_15 : decode cX12_saves 15 = .ok (.iload 7, 2) := by decide +kernel
theorem dX12_saves_17 : decode cX12_saves 17 = .ok (.iload 4, 2) := by decide +kernel
theorem dX12_saves_19 : decode cX12_saves 19 = .ok (.if_icmp .gt 78, 3) := by decide +kernel
theorem dX12_saves_22 : decode cX12_saves 22 = .ok (.iload 7, 2) := by decide +kernel
theorem dX12_saves_24 : decode cX12_saves 24 = .ok (.iload 4, 2) := by decide +kernel
theorem dX12_saves_26 : decode cX12_saves 26 = .ok (.iconst (-1), 1) := by decide +kernel
theorem dX12_saves_27 : decode cX12_saves 27 = .ok (.ixor, 1) := by decide +kernel
theorem dX12_saves_28 : decode cX12_saves 28 = .ok (.iand, 1) := by decide +kernel
theorem dX12_saves_29 : decode cX12_saves 29 = .ok (.ifCond .ne 62, 3) := by decide +kernel
theorem dX12_saves_32 : decode cX12_saves 32 = .ok (.iload 5, 2) := by decide +kernel
theorem dX12_saves_34 : decode cX12_saves 34 = .ok (.ifCond .lt 16, 3) := by decide +kernel
theorem dX12_saves_37 : decode cX12_saves 37 = .ok (.iload 7, 2) := by decide +kernel
theorem dX12_saves_39 : decode cX12_saves 39 = .ok (.invokestatic 353, 3) := by decide +kernel
theorem dX12_saves_42 : decode cX12_saves 42 = .ok (.iload 5, 2) := by decide +kernel
theorem dX12_saves_44 : decode cX12_saves 44 = .ok (.invokestatic 353, 3) := by decide +kernel
theorem dX12_saves_47 : decode cX12_saves 47 = .ok (.if_icmp .ge 44, 3) := by decide +kernel
theorem dX12_saves_50 : decode cX12_saves 50 = .ok (.aload_n 0, 1) := by decide +kernel
theorem dX12_saves_51 : decode cX12_saves 51 = .ok (.iload_n 1, 1) := by decide +kernel
theorem dX12_saves_52 : decode cX12_saves 52 = .ok (.iload 7, 2) := by decide +kernel
theorem dX12_saves_54 : decode cX12_saves 54 = .ok (.invokevirtual 419, 3) := by decide +kernel
theorem dX12_saves_57 : decode cX12_saves 57 = .ok (.istore 8, 2) := by decide +kernel
theorem dX12_saves_59 : decode cX12_saves 59 = .ok (.iload 8, 2) := by decide +kernel
theorem dX12_saves_61 : decode cX12_saves 61 = .ok (.ifCond .lt 30, 3) := by decide +kernel
theorem dX12_saves_64 : decode cX12_saves 64 = .ok (.iload_n 2, 1) := by decide +kernel
theorem dX12_saves_65 : decode cX12_saves 65 = .ok (.ifCond .lt 18, 3) := by decide +kernel
theorem dX12_saves_68 : decode cX12_saves 68 = .ok (.aload_n 0, 1) := by decide +kernel
theorem dX12_saves_69 : decode cX12_saves 69 = .ok (.getfield 32, 3) := by decide +kernel
theorem dX12_saves_72 : decode cX12_saves 72 = .ok (.bipush 7, 2) := by decide +kernel
theorem dX12_saves_74 : decode cX12_saves 74 = .ok (.iload_n 3, 1) := by decide +kernel
theorem dX12_saves_75 : decode cX12_saves 75 = .ok (.imul, 1) := by decide +kernel
theorem dX12_saves_76 : decode cX12_saves 76 = .ok (.iconst 0, 1) := by decide +kernel
theorem dX12_saves_77 : decode cX12_saves 77 = .ok (.iadd, 1) := by decide +kernel
theorem dX12_saves_78 : decode cX12_saves 78 = .ok (.iaload, 1) := by decide +kernel
theorem dX12_saves_79 : decode cX12_saves 79 = .ok (.iload_n 2, 1) := by decide +kernel
theorem dX12_saves_80 : decode cX12_saves 80 = .ok (.if_icmp .ne 11, 3) := by decide +kernel
theorem dX12_saves_83 : decode cX12_saves 83 = .ok (.iload 7, 2) := by decide +kernel
theorem dX12_saves_85 : decode cX12_saves 85 = .ok (.istore 5, 2) := by decide +kernel
theorem dX12_saves_87 : decode cX12_saves 87 = .ok (.iload 8, 2) := by decide +kernel
theorem dX12_saves_89 : decode cX12_saves 89 = .ok (.istore 6, 2) := by decide +kernel
theorem dX12_saves_91 : decode cX12_saves 91 = .ok (.iinc 7 1, 3) := by decide +kernel
theorem dX12_saves_94 : decode cX12_saves 94 = .ok (.goto (-79), 3) := by decide +kernel
theorem dX12_saves_97 : decode cX12_saves 97 = .ok (.iload 5, 2) := by decide +kernel
theorem dX12_saves_99 : decode cX12_saves 99 = .ok (.ifCond .ge 6, 3) := by decide +kernel
theorem dX12_saves_102 : decode cX12_saves 102 = .ok (.bipush (-2), 2) := by decide +kernel
theorem dX12_saves_104 : decode cX12_saves 104 = .ok (.ireturn, 1) := by decide +kernel
theorem dX12_saves_105 : decode cX12_saves 105 = .ok (.aload_n 0, 1) := by decide +kernel
theorem dX12_saves_106 : decode cX12_saves 106 = .ok (.iconst 0, 1) := by decide +kernel
theorem dX12_saves_107 : decode cX12_saves 107 = .ok (.putfield 119, 3) := by decide +kernel
theorem dX12_saves_110 : decode cX12_saves 110 = .ok (.aload_n 0, 1) := by decide +kernel
theorem dX12_saves_111 : decode cX12_saves 111 = .ok (.iload 5, 2) := by decide +kernel
theorem dX12_saves_113 : decode cX12_saves 113 = .ok (.i2l, 1) := by decide +kernel
theorem dX12_saves_114 : decode cX12_saves 114 = .ok (.invokevirtual 122, 3) := by decide +kernel
theorem dX12_saves_117 : decode cX12_saves 117 = .ok (.aload_n 0, 1) := by decide +kernel
theorem dX12_saves_118 : decode cX12_saves 118 = .ok (.iload 6, 2) := by decide +kernel
theorem dX12_saves_120 : decode cX12_saves 120 = .ok (.i2l, 1) := by decide +kernel
theorem dX12_saves_121 : decode cX12_saves 121 = .ok (.invokevirtual 122, 3) := by decide +kernel
theorem dX12_saves_124 : decode cX12_saves 124 = .ok (.iload 5, 2) := by decide +kernel
theorem dX12_saves_126 : decode cX12_saves 126 = .ok (.invokestatic 353, 3) := by decide +kernel
theorem dX12_saves_129 : decode cX12_saves 129 = .ok (.ireturn, 1) := by decide +kernel
theorem dX12_sheet_0 : decode cX12_sheet 0 = .ok (.aload_n 0, 1) := by decide +kernel
theorem dX12_sheet_1 : decode cX12_sheet 1 = .ok (.iconst 0, 1) := by decide +kernel
theorem dX12_sheet_2 : decode cX12_sheet 2 = .ok (.putfield 111, 3) := by decide +kernel
theorem dX12_sheet_5 : decode cX12_sheet 5 = .ok (.iload_n 1, 1) := by decide +kernel
theorem dX12_sheet_6 : decode cX12_sheet 6 = .ok (.i2l, 1) := by decide +kernel
theorem dX12_sheet_7 : decode cX12_sheet 7 = .ok (.lconst 0, 1) := by decide +kernel
theorem dX12_sheet_8 : decode cX12_sheet 8 = .ok (.ldc2_w 325, 3) := by decide +kernel
theorem dX12_sheet_11 : decode cX12_sheet 11 = .ok (.invokestatic 129, 3) := by decide +kernel
theorem dX12_sheet_14 : decode cX12_sheet 14 = .ok (.ifCond .eq 9, 3) := by decide +kernel
theorem dX12_sheet_17 : decode cX12_sheet 17 = .ok (.iload_n 2, 1) := by decide +kernel
theorem dX12_sheet_18 : decode cX12_sheet 18 = .ok (.bipush 6, 2) := by decide +kernel
theorem dX12_sheet_20 : decode cX12_sheet 20 = .ok (.if_icmp .le 5, 3) := by decide +kernel
theorem dX12_sheet_23 : decode cX12_sheet 23 = .ok (.iconst (-1), 1) := by decide +kernel
theorem dX12_sheet_24 : decode cX12_sheet 24 = .ok (.ireturn, 1) := by decide +kernel
theorem dX12_sheet_25 : decode cX12_sheet 25 = .ok (.iload_n 1, 1) := by decide +kernel
theorem dX12_sheet_26 : decode cX12_sheet 26 = .ok (.iconst 3, 1) := by decide +kernel
theorem dX12_sheet_27 : decode cX12_sheet 27 = .ok (.if_icmp .eq 10, 3) := by decide +kernel
theorem dX12_sheet_30 : decode cX12_sheet 30 = .ok (.iload_n 2, 1) := by decide +kernel
theorem dX12_sheet_31 : decode cX12_sheet 31 = .ok (.ifCond .ge 6, 3) := by decide +kernel
theorem dX12_sheet_34 : decode cX12_sheet 34 = .ok (.bipush (-2), 2) := by decide +kernel
theorem dX12_sheet_36 : decode cX12_sheet 36 = .ok (.ireturn, 1) := by decide +kernel
theorem dX12_sheet_37 : decode cX12_sheet 37 = .ok (.iconst 0, 1) := by decide +kernel
theorem dX12_sheet_38 : decode cX12_sheet 38 = .ok (.istore 5, 2) := by decide +kernel
theorem dX12_sheet_40 : decode cX12_sheet 40 = .ok (.iload_n 3, 1) := by decide +kernel
theorem dX12_sheet_41 : decode cX12_sheet 41 = .ok (.istore 6, 2) := by decide +kernel
theorem dX12_sheet_43 : decode cX12_sheet 43 = .ok (.iconst 0, 1) := by decide +kernel
theorem dX12_sheet_44 : decode cX12_sheet 44 = .ok (.istore 7, 2) := by decide +kernel
theorem dX12_sheet_46 : decode cX12_sheet 46 = .ok (.iload 7, 2) := by decide +kernel
theorem dX12_sheet_48 : decode cX12_sheet 48 = .ok (.aload_n 0, 1) := by decide +kernel
theorem dX12_sheet_49 : decode cX12_sheet 49 = .ok (.getfield 29, 3) := by decide +kernel
theorem dX12_sheet_52 : decode cX12_sheet 52 = .ok (.bipush 44, 2) := by decide +kernel
theorem dX12_sheet_54 : decode cX12_sheet 54 = .ok (.iaload, 1) := by decide +kernel
theorem dX12_sheet_55 : decode cX12_sheet 55 = .ok (.if_icmp .ge 96, 3) := by decide +kernel
theorem dX12_sheet_58 : decode cX12_sheet 58 = .ok (.iload_n 1, 1) := by decide +kernel
theorem dX12_sheet_59 : decode cX12_sheet 59 = .ok (.ifCond .ne 9, 3) := by decide +kernel
theorem dX12_sheet_62 : decode cX12_sheet 62 = .ok (.iload 6, 2) := by decide +kernel
theorem dX12_sheet_64 : decode cX12_sheet 64 = .ok (.i2b, 1) := by decide +kernel
theorem dX12_sheet_65 : decode cX12_sheet 65 = .ok (.goto 16, 3) := by decide +kernel
theorem dX12_sheet_68 : decode cX12_sheet 68 = .ok (.iload_n 1, 1) := by decide +kernel
theorem dX12_sheet_69 : decode cX12_sheet 69 = .ok (.iconst 1, 1) := by decide +kernel
theorem dX12_sheet_70 : decode cX12_sheet 70 = .ok (.if_icmp .ne 9, 3) := by decide +kernel
theorem dX12_sheet_73 : decode cX12_sheet 73 = .ok (.iload 6, 2) := by decide +kernel
theorem dX12_sheet_75 : decode cX12_sheet 75 = .ok (.i2s, 1) := by decide +kernel
theorem dX12_sheet_76 : decode cX12_sheet 76 = .ok (.goto 5, 3) := by decide +kernel
theorem dX12_sheet_79 : decode cX12_sheet 79 = .ok (.iload 6, 2) := by decide +kernel
theorem dX12_sheet_81 : decode cX12_sheet 81 = .ok (.istore 8, 2) := by decide +kernel
theorem dX12_sheet_83 : decode cX12_sheet 83 = .ok (.aload_n 0, 1) := by decide +kernel
theorem dX12_sheet_84 : decode cX12_sheet 84 = .ok (.getfield 29, 3) := by decide +kernel
theorem dX12_sheet_87 : decode cX12_sheet 87 = .ok (.bipush 7, 2) := by decide +kernel
theorem dX12_sheet_89 : decode cX12_sheet 89 = .ok (.iload 7, 2) := by decide +kernel
theorem dX12_sheet_91 : decode cX12_sheet 91 = .ok (.imul, 1) := by decide +kernel
theorem dX12_sheet_92 : decode cX12_sheet 92 = .ok (.iconst 1, 1) := by decide +kernel
theorem dX12_sheet_93 : decode cX12_sheet 93 = .ok (.iadd, 1) := by decide +kernel
theorem dX12_sheet_94 : decode cX12_sheet 94 = .ok (.iload_n 1, 1) := by decide +kernel
theorem dX12_sheet_95 : decode cX12_sheet 95 = .ok (.iconst 3, 1) := by decide +kernel
theorem dX12_sheet_96 : decode cX12_sheet 96 = .ok (.if_icmp .eq 9, 3) := by decide +kernel
theorem dX12_sheet_99 : decode cX12_sheet 99 = .ok (.iload 7, 2) := by decide +kernel
theorem dX12_sheet_101 : decode cX12_sheet 101 = .ok (.iload_n 2, 1) := by decide +kernel
theorem dX12_sheet_102 : decode cX12_sheet 102 = .ok (.if_icmp .lt 7, 3) := by decide +kernel
theorem dX12_sheet_105 : decode cX12_sheet 105 = .ok (.iconst 0, 1) := by decide +kernel
theorem dX12_sheet_106 : decode cX12_sheet 106 = .ok (.goto 14, 3) := by decide +kernel
theorem dX12_sheet_109 : decode cX12_sheet 109 = .ok (.iconst 0, 1) := by decide +kernel
theorem dX12_sheet_110 : decode cX12_sheet 110 = .ok (.bipush 99, 2) := by decide +kernel
theorem dX12_sheet_112 : decode cX12_sheet 112 = .ok (.iload 8, 2) := by decide +kernel
theorem dX12_sheet_114 : decode cX12_sheet 114 = .ok (.invokestatic 146, 3) := by decide +kernel
theorem dX12_sheet_117 : decode cX12_sheet 117 = .ok (.invokestatic 261, 3) := by decide +kernel
theorem dX12_sheet_120 : decode cX12_sheet 120 = .ok (.iastore, 1) := by decide +kernel
theorem dX12_sheet_121 : decode cX12_sheet 121 = .ok (.iload 5, 2) := by decide +kernel
theorem dX12_sheet_123 : decode cX12_sheet 123 = .ok (.aload_n 0, 1) := by decide +kernel
theorem dX12_sheet_124 : decode cX12_sheet 124 = .ok (.getfield 29, 3) := by decide +kernel
theorem dX12_sheet_127 : decode cX12_sheet 127 = .ok (.bipush 7, 2) := by decide +kernel
theorem dX12_sheet_129 : decode cX12_sheet 129 = .ok (.iload 7, 2) := by decide +kernel
theorem dX12_sheet_131 : decode cX12_sheet 131 = .ok (.imul, 1) := by decide +kernel
theorem dX12_sheet_132 : decode cX12_sheet 132 = .ok (.iconst 1, 1) := by decide +kernel
theorem dX12_sheet_133 : decode cX12_sheet 133 = .ok (.iadd, 1) := by decide +kernel
theorem dX12_sheet_134 : decode cX12_sheet 134 = .ok (.iaload, 1) := by decide +kernel
theorem dX12_sheet_135 : decode cX12_sheet 135 = .ok (.iadd, 1) := by decide +kernel
theorem dX12_sheet_136 : decode cX12_sheet 136 = .ok (.istore 5, 2) := by decide +kernel
theorem dX12_sheet_138 : decode cX12_sheet 138 = .ok (.iload 6, 2) := by decide +kernel
theorem dX12_sheet_140 : decode cX12_sheet 140 = .ok (.iload 4, 2) := by decide +kernel
theorem dX12_sheet_142 : decode cX12_sheet 142 = .ok (.iadd, 1) := by decide +kernel
theorem dX12_sheet_143 : decode cX12_sheet 143 = .ok (.istore 6, 2) := by decide +kernel
theorem dX12_sheet_145 : decode cX12_sheet 145 = .ok (.iinc 7 1, 3) := by decide +kernel
theorem dX12_sheet_148 : decode cX12_sheet 148 = .ok (.goto (-102), 3) := by decide +kernel
theorem dX12_sheet_151 : decode cX12_sheet 151 = .ok (.iload_n 1, 1) := by decide +kernel
theorem dX12_sheet_152 : decode cX12_sheet 152 = .ok (.iconst 3, 1) := by decide +kernel
theorem dX12_sheet_153 : decode cX12_sheet 153 = .ok (.if_icmp .ne 8, 3) := by decide +kernel
theorem dX12_sheet_156 : decode cX12_sheet 156 = .ok (.bipush (-3), 2) := by decide +kernel
theorem dX12_sheet_158 : decode cX12_sheet 158 = .ok (.goto 5, 3) := by decide +kernel
theorem dX12_sheet_161 : decode cX12_sheet 161 = .ok (.iload 5, 2) := by decide +kernel
theorem dX12_sheet_163 : decode cX12_sheet 163 = .ok (.ireturn, 1) := by decide +kernel
theorem dX12_sign_0 : decode cX12_sign 0 = .ok (.aload_n 0, 1) := by decide +kernel
theorem dX12_sign_1 : decode cX12_sign 1 = .ok (.iconst 0, 1) := by decide +kernel
theorem dX12_sign_2 : decode cX12_sign 2 = .ok (.putfield 111, 3) := by decide +kernel
theorem dX12_sign_5 : decode cX12_sign 5 = .ok (.aload_n 0, 1) := by decide +kernel
theorem dX12_sign_6 : decode cX12_sign 6 = .ok (.getfield 137, 3) := by decide +kernel
theorem dX12_sign_9 : decode cX12_sign 9 = .ok (.bipush 76, 2) := by decide +kernel
theorem dX12_sign_11 : decode cX12_sign 11 = .ok (.if_icmp .le 5, 3) := by decide +kernel
theorem dX12_sign_14 : decode cX12_sign 14 = .ok (.iconst (-1), 1) := by decide +kernel
theorem dX12_sign_15 : decode cX12_sign 15 = .ok (.ireturn, 1) := by decide +kernel
theorem dX12_sign_16 : decode cX12_sign 16 = .ok (.iconst 0, 1) := by decide +kernel
theorem dX12_sign_17 : decode cX12_sign 17 = .ok (.istore_n 2, 1) := by decide +kernel
theorem dX12_sign_18 : decode cX12_sign 18 = .ok (.iload_n 2, 1) := by decide +kernel
theorem dX12_sign_19 : decode cX12_sign 19 = .ok (.iconst 4, 1) := by decide +kernel
theorem dX12_sign_20 : decode cX12_sign 20 = .ok (.if_icmp .ge 33, 3) := by decide +kernel
theorem dX12_sign_23 : decode cX12_sign 23 = .ok (.aload_n 0, 1) := by decide +kernel
theorem dX12_sign_24 : decode cX12_sign 24 = .ok (.getfield 35, 3) := by decide +kernel
theorem dX12_sign_27 : decode cX12_sign 27 = .ok (.aload_n 0, 1) := by decide +kernel
theorem dX12_sign_28 : decode cX12_sign 28 = .ok (.getfield 137, 3) := by decide +kernel
theorem dX12_sign_31 : decode cX12_sign 31 = .ok (.iload_n 2, 1) := by decide +kernel
theorem dX12_sign_32 : decode cX12_sign 32 = .ok (.iadd, 1) := by decide +kernel
theorem dX12_sign_33 : decode cX12_sign 33 = .ok (.iload_n 1, 1) := by decide +kernel
theorem dX12_sign_34 : decode cX12_sign 34 = .ok (.bipush 24, 2) := by decide +kernel
theorem dX12_sign_36 : decode cX12_sign 36 = .ok (.bipush 8, 2) := by decide +kernel
theorem dX12_sign_38 : decode cX12_sign 38 = .ok (.iload_n 2, 1) := by decide +kernel
theorem dX12_sign_39 : decode cX12_sign 39 = .ok (.imul, 1) := by decide +kernel
theorem dX12_sign_40 : decode cX12_sign 40 = .ok (.isub, 1) := by decide +kernel
theorem dX12_sign_41 : decode cX12_sign 41 = .ok (.ishr, 1) := by decide +kernel
theorem dX12_sign_42 : decode cX12_sign 42 = .ok (.sipush 255, 3) := by decide +kernel
theorem dX12_sign_45 : decode cX12_sign 45 = .ok (.iand, 1) := by decide +kernel
theorem dX12_sign_46 : decode cX12_sign 46 = .ok (.iastore, 1) := by decide +kernel
theorem dX12_sign_47 : decode cX12_sign 47 = .ok (.iinc 2 1, 3) := by decide +kernel
theorem dX12_sign_50 : decode cX12_sign 50 = .ok (.goto (-32), 3) := by decide +kernel
theorem dX12_sign_53 : decode cX12_sign 53 = .ok (.aload_n 0, 1) := by decide +kernel
theorem dX12_sign_54 : decode cX12_sign 54 = .ok (.dup, 1) := by decide +kernel
theorem dX12_sign_55 : decode cX12_sign 55 = .ok (.getfield 137, 3) := by decide +kernel
theorem dX12_sign_58 : decode cX12_sign 58 = .ok (.iconst 4, 1) := by decide +kernel
theorem dX12_sign_59 : decode cX12_sign 59 = .ok (.iadd, 1) := by decide +kernel
theorem dX12_sign_60 : decode cX12_sign 60 = .ok (.putfield 137, 3) := by decide +kernel
theorem dX12_sign_63 : decode cX12_sign 63 = .ok (.aload_n 0, 1) := by decide +kernel
theorem dX12_sign_64 : decode cX12_sign 64 = .ok (.getfield 137, 3) := by decide +kernel
theorem dX12_sign_67 : decode cX12_sign 67 = .ok (.ireturn, 1) := by decide +kernel
theorem dX12_soonest_0 : decode cX12_soonest 0 = .ok (.aload_n 0, 1) := by decide +kernel
theorem dX12_soonest_1 : decode cX12_soonest 1 = .ok (.iconst 0, 1) := by decide +kernel
theorem dX12_soonest_2 : decode cX12_soonest 2 = .ok (.putfield 111, 3) := by decide +kernel
theorem dX12_soonest_5 : decode cX12_soonest 5 = .ok (.aload_n 0, 1) := by decide +kernel
theorem dX12_soonest_6 : decode cX12_soonest 6 = .ok (.iconst 0, 1) := by decide +kernel
theorem dX12_soonest_7 : decode cX12_soonest 7 = .ok (.iload_n 1, 1) := by decide +kernel
theorem dX12_soonest_8 : decode cX12_soonest 8 = .ok (.iload_n 2, 1) := by decide +kernel
theorem dX12_soonest_9 : decode cX12_soonest 9 = .ok (.iload_n 3, 1) := by decide +kernel
theorem dX12_soonest_10 : decode cX12_soonest 10 = .ok (.invokevirtual 405, 3) := by decide +kernel
theorem dX12_soonest_13 : decode cX12_soonest 13 = .ok (.ifCond .ne 5, 3) := by decide +kernel
theorem dX12_soonest_16 : decode cX12_soonest 16 = .ok (.iconst (-1), 1) := by decide +kernel
theorem dX12_soonest_17 : decode cX12_soonest 17 = .ok (.ireturn, 1) := by decide +kernel
theorem dX12_soonest_18 : decode cX12_soonest 18 = .ok (.aload_n 0, 1) := by decide +kernel
theorem dX12_soonest_19 : decode cX12_soonest 19 = .ok (.invokevirtual 409, 3) := by decide +kernel
theorem dX12_soonest_22 : decode cX12_soonest 22 = .ok (.bipush (-2), 2) := by decide +kernel
theorem dX12_soonest_24 : decode cX12_soonest 24 = .ok (.istore 4, 2) := by decide +kernel
theorem dX12_soonest_26 : decode cX12_soonest 26 = .ok (.iconst 0, 1) := by decide +kernel
theorem dX12_soonest_27 : decode cX12_soonest 27 = .ok (.istore 5, 2) := by decide +kernel
theorem dX12_soonest_29 : decode cX12_soonest 29 = .ok (.iconst 0, 1) := by decide +kernel
theorem dX12_soonest_30 : decode cX12_soonest 30 = .ok (.istore 6, 2) := by decide +kernel
theorem dX12_soonest_32 : decode cX12_soonest 32 = .ok (.iconst 0, 1) := by decide +kernel
theorem dX12_soonest_33 : decode cX12_soonest 33 = .ok (.istore 7, 2) := by decide +kernel
theorem dX12_soonest_35 : decode cX12_soonest 35 = .ok (.iload 7, 2) := by decide +kernel
theorem dX12_soonest_37 : decode cX12_soonest 37 = .ok (.aload_n 0, 1) := by decide +kernel
theorem dX12_soonest_38 : decode cX12_soonest 38 = .ok (.getfield 126, 3) := by decide +kernel
theorem dX12_soonest_41 : decode cX12_soonest 41 = .ok (.if_icmp .ge 73, 3) := by decide +kernel
theorem dX12_soonest_44 : decode cX12_soonest 44 = .ok (.iconst 0, 1) := by decide +kernel
theorem dX12_soonest_45 : decode cX12_soonest 45 = .ok (.istore 8, 2) := by decide +kernel
theorem dX12_soonest_47 : decode cX12_soonest 47 = .ok (.iload 8, 2) := by decide +kernel
theorem dX12_soonest_49 : decode cX12_soonest 49 = .ok (.bipush 30, 2) := by decide +kernel
theorem dX12_soonest_51 : decode cX12_soonest 51 = .ok (.if_icmp .gt 57, 3) := by decide +kernel
theorem dX12_soonest_54 : decode cX12_soonest 54 = .ok (.iload 7, 2) := by decide +kernel
theorem dX12_soonest_56 : decode cX12_soonest 56 = .ok (.iload_n 3, 1) := by decide +kernel
theorem dX12_soonest_57 : decode cX12_soonest 57 = .ok (.if_icmp .eq 51, 3) := by decide +kernel
theorem dX12_soonest_60 : decode cX12_soonest 60 = .ok (.aload_n 0, 1) := by decide +kernel
theorem dX12_soonest_61 : decode cX12_soonest 61 = .ok (.iload 7, 2) := by decide +kernel
theorem dX12_soonest_63 : decode cX12_soonest 63 = .ok (.iload_n 1, 1) := by decide +kernel
theorem dX12_soonest_64 : decode cX12_soonest 64 = .ok (.iload_n 2, 1) := by decide +kernel
theorem dX12_soonest_65 : decode cX12_soonest 65 = .ok (.iload 8, 2) := by decide +kernel
theorem dX12_soonest_67 : decode cX12_soonest 67 = .ok (.iload_n 3, 1) := by decide +kernel
theorem dX12_soonest_68 : decode cX12_soonest 68 = .ok (.invokevirtual 412, 3) := by decide +kernel
theorem dX12_soonest_71 : decode cX12_soonest 71 = .ok (.istore 9, 2) := by decide +kernel
theorem dX12_soonest_73 : decode cX12_soonest 73 = .ok (.iload 9, 2) := by decide +kernel
theorem dX12_soonest_75 : decode cX12_soonest 75 = .ok (.ifCond .lt 27, 3) := by decide +kernel
theorem dX12_soonest_78 : decode cX12_soonest 78 = .ok (.iload 4, 2) := by decide +kernel
theorem dX12_soonest_80 : decode cX12_soonest 80 = .ok (.ifCond .lt 10, 3) := by decide +kernel
theorem dX12_soonest_83 : decode cX12_soonest 83 = .ok (.iload 9, 2) := by decide +kernel
theorem dX12_soonest_85 : decode cX12_soonest 85 = .ok (.iload 4, 2) := by decide +kernel
theorem dX12_soonest_87 : decode cX12_soonest 87 = .ok (.if_icmp .ge 15, 3) := by decide +kernel
theorem dX12_soonest_90 : decode cX12_soonest 90 = .ok (.iload 9, 2) := by decide +kernel
theorem dX12_soonest_92 : decode cX12_soonest 92 = .ok (.istore 4, 2) := by decide +kernel
theorem dX12_soonest_94 : decode cX12_soonest 94 = .ok (.iload 7, 2) := by decide +kernel
theorem dX12_soonest_96 : decode cX12_soonest 96 = .ok (.istore 5, 2) := by decide +kernel
theorem dX12_soonest_98 : decode cX12_soonest 98 = .ok (.iload 8, 2) := by decide +kernel
theorem dX12_soonest_100 : decode cX12_soonest 100 = .ok (.istore 6, 2) := by decide +kernel
theorem dX12_soonest_102 : decode cX12_soonest 102 = .ok (.iinc 8 1, 3) := by decide +kernel
theorem dX12_soonest_105 : decode cX12_soonest 105 = .ok (.goto (-58), 3) := by decide +kernel
theorem dX12_soonest_108 : decode cX12_soonest 108 = .ok (.iinc 7 1, 3) := by decide +kernel
theorem dX12_soonest_111 : decode cX12_soonest 111 = .ok (.goto (-76), 3) := by decide +kernel
theorem dX12_soonest_114 : decode cX12_soonest 114 = .ok (.iload 4, 2) := by decide +kernel
theorem dX12_soonest_116 : decode cX12_soonest 116 = .ok (.ifCond .ge 6, 3) := by decide +kernel
theorem dX12_soonest_119 : decode cX12_soonest 119 = .ok (.bipush (-2), 2) := by decide +kernel
theorem dX12_soonest_121 : decode cX12_soonest 121 = .ok (.ireturn, 1) := by decide +kernel
theorem dX12_soonest_122 : decode cX12_soonest 122 = .ok (.aload_n 0, 1) := by decide +kernel
theorem dX12_soonest_123 : decode cX12_soonest 123 = .ok (.iconst 0, 1) := by decide +kernel
theorem dX12_soonest_124 : decode cX12_soonest 124 = .ok (.putfield 119, 3) := by decide +kernel
theorem dX12_soonest_127 : decode cX12_soonest 127 = .ok (.aload_n 0, 1) := by decide +kernel
theorem dX12_soonest_128 : decode cX12_soonest 128 = .ok (.iload 5, 2) := by decide +kernel
theorem dX12_soonest_130 : decode cX12_soonest 130 = .ok (.i2l, 1) := by decide +kernel
theorem dX12_soonest_131 : decode cX12_soonest 131 = .ok (.invokevirtual 122, 3) := by decide +kernel
theorem dX12_soonest_134 : decode cX12_soonest 134 = .ok (.aload_n 0, 1) := by decide +kernel
theorem dX12_soonest_135 : decode cX12_soonest 135 = .ok (.iload 6, 2) := by decide +kernel
theorem dX12_soonest_137 : decode cX12_soonest 137 = .ok (.i2l, 1) := by decide +kernel
theorem dX12_soonest_138 : decode cX12_soonest 138 = .ok (.invokevirtual 122, 3) := by decide +kernel
theorem dX12_soonest_141 : decode cX12_soonest 141 = .ok (.iload 4, 2) := by decide +kernel
theorem dX12_soonest_143 : decode cX12_soonest 143 = .ok (.ireturn, 1) := by decide +kernel
theorem dX12_steer_0 : decode cX12_steer 0 = .ok (.aload_n 0, 1) := by decide +kernel
theorem dX12_steer_1 : decode cX12_steer 1 = .ok (.iconst 0, 1) := by decide +kernel
theorem dX12_steer_2 : decode cX12_steer 2 = .ok (.putfield 111, 3) := by decide +kernel
theorem dX12_steer_5 : decode cX12_steer 5 = .ok (.aload_n 0, 1) := by decide +kernel
theorem dX12_steer_6 : decode cX12_steer 6 = .ok (.iload_n 1, 1) := by decide +kernel
theorem dX12_steer_7 : decode cX12_steer 7 = .ok (.invokevirtual 309, 3) := by decide +kernel
theorem dX12_steer_10 : decode cX12_steer 10 = .ok (.ifCond .eq 23, 3) := by decide +kernel
theorem dX12_steer_13 : decode cX12_steer 13 = .ok (.aload_n 0, 1) := by decide +kernel
theorem dX12_steer_14 : decode cX12_steer 14 = .ok (.iload_n 2, 1) := by decide +kernel
theorem dX12_steer_15 : decode cX12_steer 15 = .ok (.invokevirtual 402, 3) := by decide +kernel
theorem dX12_steer_18 : decode cX12_steer 18 = .ok (.ifCond .eq 15, 3) := by decide +kernel
theorem dX12_steer_21 : decode cX12_steer 21 = .ok (.aload_n 0, 1) := by decide +kernel
theorem dX12_steer_22 : decode cX12_steer 22 = .ok (.iconst 1, 1) := by decide +kernel
theorem dX12_steer_23 : decode cX12_steer 23 = .ok (.iload_n 1, 1) := by decide +kernel
theorem dX12_steer_24 : decode cX12_steer 24 = .ok (.ishl, 1) := by decide +kernel
theorem dX12_steer_25 : decode cX12_steer 25 = .ok (.iload_n 2, 1) := by decide +kernel
theorem dX12_steer_26 : decode cX12_steer 26 = .ok (.iload_n 1, 1) := by decide +kernel
theorem dX12_steer_27 : decode cX12_steer 27 = .ok (.invokevirtual 422, 3) := by decide +kernel
theorem dX12_steer_30 : decode cX12_steer 30 = .ok (.goto 4, 3) := by decide +kernel
theorem dX12_steer_33 : decode cX12_steer 33 = .ok (.iconst (-1), 1) := by decide +kernel
theorem dX12_steer_34 : decode cX12_steer 34 = .ok (.ireturn, 1) := by decide +kernel
theorem dX12_undo_0 : decode cX12_undo 0 = .ok (.aload_n 0, 1) := by decide +kernel
theorem dX12_undo_1 : decode cX12_undo 1 = .ok (.iconst 0, 1) := by decide +kernel
theorem dX12_undo_2 : decode cX12_undo 2 = .ok (.putfield 111, 3) := by decide +kernel
theorem dX12_undo_5 : decode cX12_undo 5 = .ok (.aload_n 0, 1) := by decide +kernel
theorem dX12_undo_6 : decode cX12_undo 6 = .ok (.getfield 220, 3) := by decide +kernel
theorem dX12_undo_9 : decode cX12_undo 9 = .ok (.ifCond .ne 5, 3) := by decide +kernel
theorem dX12_undo_12 : decode cX12_undo 12 = .ok (.iconst (-1), 1) := by decide +kernel
theorem dX12_undo_13 : decode cX12_undo 13 = .ok (.ireturn, 1) := by decide +kernel
theorem dX12_undo_14 : decode cX12_undo 14 = .ok (.aload_n 0, 1) := by decide +kernel
theorem dX12_undo_15 : decode cX12_undo 15 = .ok (.dup, 1) := by decide +kernel
theorem dX12_undo_16 : decode cX12_undo 16 = .ok (.getfield 220, 3) := by decide +kernel
theorem dX12_undo_19 : decode cX12_undo 19 = .ok (.iconst 1, 1) := by decide +kernel
theorem dX12_undo_20 : decode cX12_undo 20 = .ok (.isub, 1) := by decide +kernel
theorem dX12_undo_21 : decode cX12_undo 21 = .ok (.putfield 220, 3) := by decide +kernel
theorem dX12_undo_24 : decode cX12_undo 24 = .ok (.iconst 0, 1) := by decide +kernel
theorem dX12_undo_25 : decode cX12_undo 25 = .ok (.istore_n 1, 1) := by decide +kernel
theorem dX12_undo_26 : decode cX12_undo 26 = .ok (.iload_n 1, 1) := by decide +kernel
theorem dX12_undo_27 : decode cX12_undo 27 = .ok (.bipush 45, 2) := by decide +kernel
theorem dX12_undo_29 : decode cX12_undo 29 = .ok (.if_icmp .ge 29, 3) := by decide +kernel
theorem dX12_undo_32 : decode cX12_undo 32 = .ok (.aload_n 0, 1) := by decide +kernel
theorem dX12_undo_33 : decode cX12_undo 33 = .ok (.getfield 29, 3) := by decide +kernel
theorem dX12_undo_36 : decode cX12_undo 36 = .ok (.iload_n 1, 1) := by decide +kernel
theorem dX12_undo_37 : decode cX12_undo 37 = .ok (.aload_n 0, 1) := by decide +kernel
theorem dX12_undo_38 : decode cX12_undo 38 = .ok (.getfield 68, 3) := by decide +kernel
theorem dX12_undo_41 : decode cX12_undo 41 = .ok (.bipush 45, 2) := by decide +kernel
theorem dX12_undo_43 : decode cX12_undo 43 = .ok (.aload_n 0, 1) := by decide +kernel
theorem dX12_undo_44 : decode cX12_undo 44 = .ok (.getfield 220, 3) := by decide +kernel
theorem dX12_undo_47 : decode cX12_undo 47 = .ok (.imul, 1) := by decide +kernel
theorem dX12_undo_48 : decode cX12_undo 48 = .ok (.iload_n 1, 1) := by decide +kernel
theorem dX12_undo_49 : decode cX12_undo 49 = .ok (.iadd, 1) := by decide +kernel
theorem dX12_undo_50 : decode cX12_undo 50 = .ok (.iaload, 1) := by decide +kernel
theorem dX12_undo_51 : decode cX12_undo 51 = .ok (.iastore, 1) := by decide +kernel
theorem dX12_undo_52 : decode cX12_undo 52 = .ok (.iinc 1 1, 3) := by decide +kernel
theorem dX12_undo_55 : decode cX12_undo 55 = .ok (.goto (-29), 3) := by decide +kernel
theorem dX12_undo_58 : decode cX12_undo 58 = .ok (.aload_n 0, 1) := by decide +kernel
theorem dX12_undo_59 : decode cX12_undo 59 = .ok (.getfield 220, 3) := by decide +kernel
theorem dX12_undo_62 : decode cX12_undo 62 = .ok (.ireturn, 1) := by decide +kernel
theorem dX12_waits_0 : decode cX12_waits 0 = .ok (.aload_n 0, 1) := by decide +kernel
theorem dX12_waits_1 : decode cX12_waits 1 = .ok (.iconst 0, 1) := by decide +kernel
theorem dX12_waits_2 : decode cX12_waits 2 = .ok (.putfield 111, 3) := by decide +kernel
theorem dX12_waits_5 : decode cX12_waits 5 = .ok (.aload_n 0, 1) := by decide +kernel
theorem dX12_waits_6 : decode cX12_waits 6 = .ok (.iload_n 1, 1) := by decide +kernel
theorem dX12_waits_7 : decode cX12_waits 7 = .ok (.iload_n 2, 1) := by decide +kernel
theorem dX12_waits_8 : decode cX12_waits 8 = .ok (.iload_n 3, 1) := by decide +kernel
theorem dX12_waits_9 : decode cX12_waits 9 = .ok (.iload 4, 2) := by decide +kernel
theorem dX12_waits_11 : decode cX12_waits 11 = .ok (.invokevirtual 405, 3) := by decide +kernel
theorem dX12_waits_14 : decode cX12_waits 14 = .ok (.ifCond .ne 5, 3) := by decide +kernel
theorem dX12_waits_17 : decode cX12_waits 17 = .ok (.iconst (-1), 1) := by decide +kernel
theorem dX12_waits_18 : decode cX12_waits 18 = .ok (.ireturn, 1) := by decide +kernel
theorem dX12_waits_19 : decode cX12_waits 19 = .ok (.aload_n 0, 1) := by decide +kernel
theorem dX12_waits_20 : decode cX12_waits 20 = .ok (.invokevirtual 409, 3) := by decide +kernel
theorem dX12_waits_23 : decode cX12_waits 23 = .ok (.iconst 0, 1) := by decide +kernel
theorem dX12_waits_24 : decode cX12_waits 24 = .ok (.istore 5, 2) := by decide +kernel
theorem dX12_waits_26 : decode cX12_waits 26 = .ok (.iconst (-1), 1) := by decide +kernel
theorem dX12_waits_27 : decode cX12_waits 27 = .ok (.istore 6, 2) := by decide +kernel
theorem dX12_waits_29 : decode cX12_waits 29 = .ok (.iconst (-1), 1) := by decide +kernel
theorem dX12_waits_30 : decode cX12_waits 30 = .ok (.istore 7, 2) := by decide +kernel
theorem dX12_waits_32 : decode cX12_waits 32 = .ok (.iconst 0, 1) := by decide +kernel
theorem dX12_waits_33 : decode cX12_waits 33 = .ok (.istore 8, 2) := by decide +kernel
theorem dX12_waits_35 : decode cX12_waits 35 = .ok (.iload 8, 2) := by decide +kernel
theorem dX12_waits_37 : decode cX12_waits 37 = .ok (.bipush 30, 2) := by decide +kernel
theorem dX12_waits_39 : decode cX12_waits 39 = .ok (.if_icmp .ge 95, 3) := by decide +kernel
theorem dX12_waits_42 : decode cX12_waits 42 = .ok (.aload_n 0, 1) := by decide +kernel
theorem dX12_waits_43 : decode cX12_waits 43 = .ok (.iload_n 1, 1) := by decide +kernel
theorem dX12_waits_44 : decode cX12_waits 44 = .ok (.iload_n 2, 1) := by decide +kernel
theorem dX12_waits_45 : decode cX12_waits 45 = .ok (.iload_n 3, 1) := by decide +kernel
theorem dX12_waits_46 : decode cX12_waits 46 = .ok (.iload 8, 2) := by decide +kernel
theorem dX12_waits_48 : decode cX12_waits 48 = .ok (.iload 4, 2) := by decide +kernel
theorem dX12_waits_50 : decode cX12_waits 50 = .ok (.invokevirtual 412, 3) := by decide +kernel
theorem dX12_waits_53 : decode cX12_waits 53 = .ok (.istore 9, 2) := by decide +kernel
theorem dX12_waits_55 : decode cX12_waits 55 = .ok (.iload 9, 2) := by decide +kernel
theorem dX12_waits_57 : decode cX12_waits 57 = .ok (.ifCond .lt 71, 3) := by decide +kernel
theorem dX12_waits_60 : decode cX12_waits 60 = .ok (.iload_n 1, 1) := by decide +kernel
theorem dX12_waits_61 : decode cX12_waits 61 = .ok (.iload 4, 2) := by decide +kernel
theorem dX12_waits_63 : decode cX12_waits 63 = .ok (.if_icmp .ne 7, 3) := by decide +kernel
theorem dX12_waits_66 : decode cX12_waits 66 = .ok (.iconst 0, 1) := by decide +kernel
theorem dX12_waits_67 : decode cX12_waits 67 = .ok (.goto 8, 3) := by decide +kernel
theorem dX12_waits_70 : decode cX12_waits 70 = .ok (.iload 9, 2) := by decide +kernel
theorem dX12_waits_72 : decode cX12_waits 72 = .ok (.iload 8, 2) := by decide +kernel
theorem dX12_waits_74 : decode cX12_waits 74 = .ok (.isub, 1) := by decide +kernel
theorem dX12_waits_75 : decode cX12_waits 75 = .ok (.istore 10, 2) := by decide +kernel
theorem dX12_waits_77 : decode cX12_waits 77 = .ok (.iload 5, 2) := by decide +kernel
theorem dX12_waits_79 : decode cX12_waits 79 = .ok (.iconst 1, 1) := by decide +kernel
theorem dX12_waits_80 : decode cX12_waits 80 = .ok (.iload 8, 2) := by decide +kernel
theorem dX12_waits_82 : decode cX12_waits 82 = .ok (.ishl, 1) := by decide +kernel
theorem dX12_waits_83 : decode cX12_waits 83 = .ok (.ior, 1) := by decide +kernel
theorem dX12_waits_84 : decode cX12_waits 84 = .ok (.istore 5, 2) := by decide +kernel
theorem dX12_waits_86 : decode cX12_waits 86 = .ok (.iload 6, 2) := by decide +kernel
theorem dX12_waits_88 : decode cX12_waits 88 = .ok (.ifCond .lt 10, 3) := by decide +kernel
theorem dX12_waits_91 : decode cX12_waits 91 = .ok (.iload 10, 2) := by decide +kernel
theorem dX12_waits_93 : decode cX12_waits 93 = .ok (.iload 7, 2) := by decide +kernel
theorem dX12_waits_95 : decode cX12_waits 95 = .ok (.if_icmp .ge 8, 3) := by decide +kernel
theorem dX12_waits_98 : decode cX12_waits 98 = .ok (.iload 8, 2) := by decide +kernel
theorem dX12_waits_100 : decode cX12_waits 100 = .ok (.goto 5, 3) := by decide +kernel
theorem dX12_waits_103 : decode cX12_waits 103 = .ok (.iload 6, 2) := by decide +kernel
theorem dX12_waits_105 : decode cX12_waits 105 = .ok (.istore 6, 2) := by decide +kernel
theorem dX12_waits_107 : decode cX12_waits 107 = .ok (.iload 7, 2) := by decide +kernel
theorem dX12_waits_109 : decode cX12_waits 109 = .ok (.ifCond .lt 10, 3) := by decide +kernel
theorem dX12_waits_112 : decode cX12_waits 112 = .ok (.iload 10, 2) := by decide +kernel
theorem dX12_waits_114 : decode cX12_waits 114 = .ok (.iload 7, 2) := by decide +kernel
theorem dX12_waits_116 : decode cX12_waits 116 = .ok (.if_icmp .ge 8, 3) := by decide +kernel
theorem dX12_waits_119 : decode cX12_waits 119 = .ok (.iload 10, 2) := by decide +kernel
theorem dX12_waits_121 : decode cX12_waits 121 = .ok (.goto 5, 3) := by decide +kernel
theorem dX12_waits_124 : decode cX12_waits 124 = .ok (.iload 7, 2) := by decide +kernel
theorem dX12_waits_126 : decode cX12_waits 126 = .ok (.istore 7, 2) := by decide +kernel
theorem dX12_waits_128 : decode cX12_waits 128 = .ok (.iinc 8 1, 3) := by decide +kernel
theorem dX12_waits_131 : decode cX12_waits 131 = .ok (.goto (-96), 3) := by decide +kernel
theorem dX12_waits_134 : decode cX12_waits 134 = .ok (.aload_n 0, 1) := by decide +kernel
theorem dX12_waits_135 : decode cX12_waits 135 = .ok (.iconst 0, 1) := by decide +kernel
theorem dX12_waits_136 : decode cX12_waits 136 = .ok (.putfield 119, 3) := by decide +kernel
theorem dX12_waits_139 : decode cX12_waits 139 = .ok (.aload_n 0, 1) := by decide +kernel
theorem dX12_waits_140 : decode cX12_waits 140 = .ok (.iload 6, 2) := by decide +kernel
theorem dX12_waits_142 : decode cX12_waits 142 = .ok (.i2l, 1) := by decide +kernel
theorem dX12_waits_143 : decode cX12_waits 143 = .ok (.invokevirtual 122, 3) := by decide +kernel
theorem dX12_waits_146 : decode cX12_waits 146 = .ok (.aload_n 0, 1) := by decide +kernel
theorem dX12_waits_147 : decode cX12_waits 147 = .ok (.iload 7, 2) := by decide +kernel
theorem dX12_waits_149 : decode cX12_waits 149 = .ok (.i2l, 1) := by decide +kernel
theorem dX12_waits_150 : decode cX12_waits 150 = .ok (.invokevirtual 122, 3) := by decide +kernel
theorem dX12_waits_153 : decode cX12_waits 153 = .ok (.iload 5, 2) := by decide +kernel
theorem dX12_waits_155 : decode cX12_waits 155 = .ok (.ireturn, 1) := by decide +kernel
theorem dX12_water_0 : decode cX12_water 0 = .ok (.aload_n 0, 1) := by decide +kernel
theorem dX12_water_1 : decode cX12_water 1 = .ok (.iconst 0, 1) := by decide +kernel
theorem dX12_water_2 : decode cX12_water 2 = .ok (.putfield 111, 3) := by decide +kernel
theorem dX12_water_5 : decode cX12_water 5 = .ok (.aload_n 0, 1) := by decide +kernel
theorem dX12_water_6 : decode cX12_water 6 = .ok (.bipush 40, 2) := by decide +kernel
theorem dX12_water_8 : decode cX12_water 8 = .ok (.invokevirtual 203, 3) := by decide +kernel
theorem dX12_water_11 : decode cX12_water 11 = .ok (.istore_n 1, 1) := by decide +kernel
theorem dX12_water_12 : decode cX12_water 12 = .ok (.iconst 0, 1) := by decide +kernel
theorem dX12_water_13 : decode cX12_water 13 = .ok (.istore_n 2, 1) := by decide +kernel
theorem dX12_water_14 : decode cX12_water 14 = .ok (.aload_n 0, 1) := by decide +kernel
theorem dX12_water_15 : decode cX12_water 15 = .ok (.ldc 223, 2) := by decide +kernel
theorem dX12_water_17 : decode cX12_water 17 = .ok (.invokevirtual 173, 3) := by decide +kernel
theorem dX12_water_20 : decode cX12_water 20 = .ok (.ifCond .lt 21, 3) := by decide +kernel
theorem dX12_water_23 : decode cX12_water 23 = .ok (.aload_n 0, 1) := by decide +kernel
theorem dX12_water_24 : decode cX12_water 24 = .ok (.getfield 56, 3) := by decide +kernel
theorem dX12_water_27 : decode cX12_water 27 = .ok (.iload_n 2, 1) := by decide +kernel
theorem dX12_water_28 : decode cX12_water 28 = .ok (.aload_n 0, 1) := by decide +kernel
theorem dX12_water_29 : decode cX12_water 29 = .ok (.ldc 223, 2) := by decide +kernel
theorem dX12_water_31 : decode cX12_water 31 = .ok (.invokevirtual 183, 3) := by decide +kernel
theorem dX12_water_34 : decode cX12_water 34 = .ok (.iastore, 1) := by decide +kernel
theorem dX12_water_35 : decode cX12_water 35 = .ok (.iinc 2 1, 3) := by decide +kernel
theorem dX12_water_38 : decode cX12_water 38 = .ok (.goto (-24), 3) := by decide +kernel
theorem dX12_water_41 : decode cX12_water 41 = .ok (.aload_n 0, 1) := by decide +kernel
theorem dX12_water_42 : decode cX12_water 42 = .ok (.iload_n 1, 1) := by decide +kernel
theorem dX12_water_43 : decode cX12_water 43 = .ok (.bipush 40, 2) := by decide +kernel
theorem dX12_water_45 : decode cX12_water 45 = .ok (.iconst 1, 1) := by decide +kernel
theorem dX12_water_46 : decode cX12_water 46 = .ok (.invokevirtual 213, 3) := by decide +kernel
theorem dX12_water_49 : decode cX12_water 49 = .ok (.istore_n 3, 1) := by decide +kernel
theorem dX12_water_50 : decode cX12_water 50 = .ok (.iload_n 3, 1) := by decide +kernel
theorem dX12_water_51 : decode cX12_water 51 = .ok (.ifCond .ge 5, 3) := by decide +kernel
theorem dX12_water_54 : decode cX12_water 54 = .ok (.iload_n 3, 1) := by decide +kernel
theorem dX12_water_55 : decode cX12_water 55 = .ok (.ireturn, 1) := by decide +kernel
theorem dX12_water_56 : decode cX12_water 56 = .ok (.aload_n 0, 1) := by decide +kernel
theorem dX12_water_57 : decode cX12_water 57 = .ok (.iload_n 2, 1) := by decide +kernel
theorem dX12_water_58 : decode cX12_water 58 = .ok (.putfield 225, 3) := by decide +kernel
theorem dX12_water_61 : decode cX12_water 61 = .ok (.iconst 0, 1) := by decide +kernel
theorem dX12_water_62 : decode cX12_water 62 = .ok (.istore 4, 2) := by decide +kernel
theorem dX12_water_64 : decode cX12_water 64 = .ok (.iload 4, 2) := by decide +kernel
theorem dX12_water_66 : decode cX12_water 66 = .ok (.iload_n 2, 1) := by decide +kernel
theorem dX12_water_67 : decode cX12_water 67 = .ok (.if_icmp .ge 23, 3) := by decide +kernel
theorem dX12_water_70 : decode cX12_water 70 = .ok (.aload_n 0, 1) := by decide +kernel
theorem dX12_water_71 : decode cX12_water 71 = .ok (.getfield 26, 3) := by decide +kernel
theorem dX12_water_74 : decode cX12_water 74 = .ok (.iload 4, 2) := by decide +kernel
theorem dX12_water_76 : decode cX12_water 76 = .ok (.aload_n 0, 1) := by decide +kernel
theorem dX12_water_77 : decode cX12_water 77 = .ok (.getfield 56, 3) := by decide +kernel
theorem dX12_water_80 : decode cX12_water 80 = .ok (.iload 4, 2) := by decide +kernel
theorem dX12_water_82 : decode cX12_water 82 = .ok (.iaload, 1) := by decide +kernel
theorem dX12_water_83 : decode cX12_water 83 = .ok (.iastore, 1) := by decide +kernel
theorem dX12_water_84 : decode cX12_water 84 = .ok (.iinc 4 1, 3) := by decide +kernel
theorem dX12_water_87 : decode cX12_water 87 = .ok (.goto (-23), 3) := by decide +kernel
theorem dX12_water_90 : decode cX12_water 90 = .ok (.iload_n 2, 1) := by decide +kernel
theorem dX12_water_91 : decode cX12_water 91 = .ok (.ireturn, 1) := by decide +kernel
