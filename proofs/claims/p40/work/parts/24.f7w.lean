theorem mw_54 : (Cond.selects RX12 yX12_refuse yX12_refuse) ∈ gx_G := gx_mem 54 (by decide +kernel) (by decide +kernel)
theorem mw_72 : (Cond.selects RX12 yX12_goesOn yX12_goesOn) ∈ gx_G := gx_mem 72 (by decide +kernel) (by decide +kernel)
theorem mw_82 : (Cond.selects RX12 yX12_savedAfter yX12_savedAfter) ∈ gx_G := gx_mem 82 (by decide +kernel) (by decide +kernel)
theorem mw_85 : (Cond.selects RX12 yX12_laysFits yX12_laysFits) ∈ gx_G := gx_mem 85 (by decide +kernel) (by decide +kernel)
theorem mw_86 : (Cond.selects RX12 yX12_floatsTo yX12_floatsTo) ∈ gx_G := gx_mem 86 (by decide +kernel) (by decide +kernel)
theorem mw_87 : (Cond.selects RX12 yX12_entersFraction yX12_entersFraction) ∈ gx_G := gx_mem 87 (by decide +kernel) (by decide +kernel)
theorem mw_1470 : (Cond.fieldLink RX12 98 "DownTheGutterModel" "fits" "[Z") ∈ gx_G := gx_mem 1470 (by decide +kernel) (by decide +kernel)
theorem mw_1471 : (Cond.fieldLink RX12 102 "DownTheGutterModel" "parts" "[I") ∈ gx_G := gx_mem 1471 (by decide +kernel) (by decide +kernel)
theorem mw_1790 : (Cond.methodLink RX12 306 yX12_refuse) ∈ gx_G := gx_mem 1790 (by decide +kernel) (by decide +kernel)
theorem mw_1792 : (Cond.instanceMethod yX12_refuse) ∈ gx_G := gx_mem 1792 (by decide +kernel) (by decide +kernel)
theorem mw_1793 : (Cond.code yX12_refuse cX12_refuse 1 (some .int)) ∈ gx_G := gx_mem 1793 (by decide +kernel) (by decide +kernel)
theorem mw_1802 : (Cond.constantLong RX12 312 (6)) ∈ gx_G := gx_mem 1802 (by decide +kernel) (by decide +kernel)
theorem mw_1808 : (Cond.constantLong RX12 314 (9999)) ∈ gx_G := gx_mem 1808 (by decide +kernel) (by decide +kernel)
theorem mw_1840 : (Cond.constantLong RX12 325 (3)) ∈ gx_G := gx_mem 1840 (by decide +kernel) (by decide +kernel)
theorem mw_1923 : (Cond.constantLong RX12 378 (300)) ∈ gx_G := gx_mem 1923 (by decide +kernel) (by decide +kernel)
theorem mw_1924 : (Cond.methodLink RX12 380 yX12_goesOn) ∈ gx_G := gx_mem 1924 (by decide +kernel) (by decide +kernel)
theorem mw_1926 : (Cond.instanceMethod yX12_goesOn) ∈ gx_G := gx_mem 1926 (by decide +kernel) (by decide +kernel)
theorem mw_1927 : (Cond.code yX12_goesOn cX12_goesOn 3 none) ∈ gx_G := gx_mem 1927 (by decide +kernel) (by decide +kernel)
theorem mw_1943 : (Cond.methodLink RX12 386 yJ6_numberOfTrailingZeros_0f7a4) ∈ gx_G := gx_mem 1943 (by decide +kernel) (by decide +kernel)
theorem mw_1944 : (Cond.static yJ6_numberOfTrailingZeros_0f7a4) ∈ gx_G := gx_mem 1944 (by decide +kernel) (by decide +kernel)
theorem mw_1945 : (Cond.code yJ6_numberOfTrailingZeros_0f7a4 cJ6_numberOfTrailingZeros_0f7a4 2 (some .int)) ∈ gx_G := gx_mem 1945 (by decide +kernel) (by decide +kernel)
theorem mw_1946 : (Cond.constant RJ6 264 (65536)) ∈ gx_G := gx_mem 1946 (by decide +kernel) (by decide +kernel)
theorem mw_2015 : (Cond.methodLink RX12 419 yX12_savedAfter) ∈ gx_G := gx_mem 2015 (by decide +kernel) (by decide +kernel)
theorem mw_2017 : (Cond.instanceMethod yX12_savedAfter) ∈ gx_G := gx_mem 2017 (by decide +kernel) (by decide +kernel)
theorem mw_2018 : (Cond.code yX12_savedAfter cX12_savedAfter 4 (some .int)) ∈ gx_G := gx_mem 2018 (by decide +kernel) (by decide +kernel)
theorem mw_2052 : (Cond.methodLink RX12 448 yX12_laysFits) ∈ gx_G := gx_mem 2052 (by decide +kernel) (by decide +kernel)
theorem mw_2054 : (Cond.instanceMethod yX12_laysFits) ∈ gx_G := gx_mem 2054 (by decide +kernel) (by decide +kernel)
theorem mw_2055 : (Cond.code yX12_laysFits cX12_laysFits 6 (some .int)) ∈ gx_G := gx_mem 2055 (by decide +kernel) (by decide +kernel)
theorem mw_2056 : (Cond.methodLink RX12 445 yX12_floatsTo) ∈ gx_G := gx_mem 2056 (by decide +kernel) (by decide +kernel)
theorem mw_2058 : (Cond.instanceMethod yX12_floatsTo) ∈ gx_G := gx_mem 2058 (by decide +kernel) (by decide +kernel)
theorem mw_2059 : (Cond.code yX12_floatsTo cX12_floatsTo 4 (some .int)) ∈ gx_G := gx_mem 2059 (by decide +kernel) (by decide +kernel)
theorem mw_2068 : (Cond.constantLong RX12 451 (60)) ∈ gx_G := gx_mem 2068 (by decide +kernel) (by decide +kernel)
theorem mw_2069 : (Cond.constantLong RX12 453 (10)) ∈ gx_G := gx_mem 2069 (by decide +kernel) (by decide +kernel)
theorem mw_2070 : (Cond.methodLink RX12 455 yX12_entersFraction) ∈ gx_G := gx_mem 2070 (by decide +kernel) (by decide +kernel)
theorem mw_2072 : (Cond.instanceMethod yX12_entersFraction) ∈ gx_G := gx_mem 2072 (by decide +kernel) (by decide +kernel)
theorem mw_2073 : (Cond.code yX12_entersFraction cX12_entersFraction 7 none) ∈ gx_G := gx_mem 2073 (by decide +kernel) (by decide +kernel)
theorem mw_2081 : (Cond.constantLong RX12 459 (4095)) ∈ gx_G := gx_mem 2081 (by decide +kernel) (by decide +kernel)
theorem cw_X12_380 : gx_Wv RX12 380 yX12_goesOn cX12_goesOn 3 none 1 := ⟨⟨mw_1924, mw_1926, mw_72, mw_101, mw_1927⟩, by decide +kernel⟩
theorem cw_X12_445 : gx_Wv RX12 445 yX12_floatsTo cX12_floatsTo 4 (some .int) 3 := ⟨⟨mw_2056, mw_2058, mw_86, mw_101, mw_2059⟩, by decide +kernel⟩
theorem cw_X12_386 : gx_Ws RX12 386 yJ6_numberOfTrailingZeros_0f7a4 cJ6_numberOfTrailingZeros_0f7a4 2 (some .int) 1 := ⟨⟨mw_1943, mw_1944, mw_114, mw_1945⟩, by decide +kernel⟩
theorem cw_X12_448 : gx_Wv RX12 448 yX12_laysFits cX12_laysFits 6 (some .int) 0 := ⟨⟨mw_2052, mw_2054, mw_85, mw_101, mw_2055⟩, by decide +kernel⟩
theorem cw_X12_455 : gx_Wv RX12 455 yX12_entersFraction cX12_entersFraction 7 none 2 := ⟨⟨mw_2070, mw_2072, mw_87, mw_101, mw_2073⟩, by decide +kernel⟩
theorem cw_X12_306 : gx_Wv RX12 306 yX12_refuse cX12_refuse 1 (some .int) 0 := ⟨⟨mw_1790, mw_1792, mw_54, mw_101, mw_1793⟩, by decide +kernel⟩
theorem cw_X12_419 : gx_Wv RX12 419 yX12_savedAfter cX12_savedAfter 4 (some .int) 2 := ⟨⟨mw_2015, mw_2017, mw_82, mw_101, mw_2018⟩, by decide +kernel⟩
theorem t_229 : gx_tb[229]? = some (.inr (2, 4096, [])) := rfl
theorem t_230 : gx_tb[230]? = some (.inr (0, 13, [])) := rfl
theorem dJ6_numberOfTrailingZeros_0f7a4_0 : decode cJ6_numberOfTrailingZeros_0f7a4 0 = .ok (.iload_n 0, 1) := by decide +kernel
theorem dJ6_numberOfTrailingZeros_0f7a4_1 : decode cJ6_numberOfTrailingZeros_0f7a4 1 = .ok (.iconst (-1), 1) := by decide +kernel
theorem dJ6_numberOfTrailingZeros_0f7a4_2 : decode cJ6_numberOfTrailingZeros_0f7a4 2 = .ok (.ixor, 1) := by decide +kernel
theorem dJ6_numberOfTrailingZeros_0f7a4_3 : decode cJ6_numberOfTrailingZeros_0f7a4 3 = .ok (.iload_n 0, 1) := by decide +kernel
theorem dJ6_numberOfTrailingZeros_0f7a4_4 : decode cJ6_numberOfTrailingZeros_0f7a4 4 = .ok (.iconst 1, 1) := by decide +kernel
theorem dJ6_numberOfTrailingZeros_0f7a4_5 : decode cJ6_numberOfTrailingZeros_0f7a4 5 = .ok (.isub, 1) := by decide +kernel
theorem dJ6_numberOfTrailingZeros_0f7a4_6 : decode cJ6_numberOfTrailingZeros_0f7a4 6 = .ok (.iand, 1) := by decide +kernel
theorem dJ6_numberOfTrailingZeros_0f7a4_7 : decode cJ6_numberOfTrailingZeros_0f7a4 7 = .ok (.istore_n 0, 1) := by decide +kernel
theorem dJ6_numberOfTrailingZeros_0f7a4_8 : decode cJ6_numberOfTrailingZeros_0f7a4 8 = .ok (.iload_n 0, 1) := by decide +kernel
theorem dJ6_numberOfTrailingZeros_0f7a4_9 : decode cJ6_numberOfTrailingZeros_0f7a4 9 = .ok (.ifCond .gt 8, 3) := by decide +kernel
theorem dJ6_numberOfTrailingZeros_0f7a4_12 : decode cJ6_numberOfTrailingZeros_0f7a4 12 = .ok (.iload_n 0, 1) := by decide +kernel
theorem dJ6_numberOfTrailingZeros_0f7a4_13 : decode cJ6_numberOfTrailingZeros_0f7a4 13 = .ok (.bipush 32, 2) := by decide +kernel
theorem dJ6_numberOfTrailingZeros_0f7a4_15 : decode cJ6_numberOfTrailingZeros_0f7a4 15 = .ok (.iand, 1) := by decide +kernel
theorem dJ6_numberOfTrailingZeros_0f7a4_16 : decode cJ6_numberOfTrailingZeros_0f7a4 16 = .ok (.ireturn, 1) := by decide +kernel
theorem dJ6_numberOfTrailingZeros_0f7a4_17 : decode cJ6_numberOfTrailingZeros_0f7a4 17 = .ok (.iconst 1, 1) := by decide +kernel
theorem dJ6_numberOfTrailingZeros_0f7a4_18 : decode cJ6_numberOfTrailingZeros_0f7a4 18 = .ok (.istore_n 1, 1) := by decide +kernel
theorem dJ6_numberOfTrailingZeros_0f7a4_19 : decode cJ6_numberOfTrailingZeros_0f7a4 19 = .ok (.iload_n 0, 1) := by decide +kernel
theorem dJ6_numberOfTrailingZeros_0f7a4_20 : decode cJ6_numberOfTrailingZeros_0f7a4 20 = .ok (.ldc_w 264, 3) := by decide +kernel
theorem dJ6_numberOfTrailingZeros_0f7a4_23 : decode cJ6_numberOfTrailingZeros_0f7a4 23 = .ok (.if_icmp .le 11, 3) := by decide +kernel
theorem dJ6_numberOfTrailingZeros_0f7a4_26 : decode cJ6_numberOfTrailingZeros_0f7a4 26 = .ok (.iinc 1 16, 3) := by decide +kernel
theorem dJ6_numberOfTrailingZeros_0f7a4_29 : decode cJ6_numberOfTrailingZeros_0f7a4 29 = .ok (.iload_n 0, 1) := by decide +kernel
theorem dJ6_numberOfTrailingZeros_0f7a4_30 : decode cJ6_numberOfTrailingZeros_0f7a4 30 = .ok (.bipush 16, 2) := by decide +kernel
theorem dJ6_numberOfTrailingZeros_0f7a4_32 : decode cJ6_numberOfTrailingZeros_0f7a4 32 = .ok (.iushr, 1) := by decide +kernel
theorem dJ6_numberOfTrailingZeros_0f7a4_33 : decode cJ6_numberOfTrailingZeros_0f7a4 33 = .ok (.istore_n 0, 1) := by decide +kernel
theorem dJ6_numberOfTrailingZeros_0f7a4_34 : decode cJ6_numberOfTrailingZeros_0f7a4 34 = .ok (.iload_n 0, 1) := by decide +kernel
theorem dJ6_numberOfTrailingZeros_0f7a4_35 : decode cJ6_numberOfTrailingZeros_0f7a4 35 = .ok (.sipush 256, 3) := by decide +kernel
theorem dJ6_numberOfTrailingZeros_0f7a4_38 : decode cJ6_numberOfTrailingZeros_0f7a4 38 = .ok (.if_icmp .le 11, 3) := by decide +kernel
theorem dJ6_numberOfTrailingZeros_0f7a4_41 : decode cJ6_numberOfTrailingZeros_0f7a4 41 = .ok (.iinc 1 8, 3) := by decide +kernel
theorem dJ6_numberOfTrailingZeros_0f7a4_44 : decode cJ6_numberOfTrailingZeros_0f7a4 44 = .ok (.iload_n 0, 1) := by decide +kernel
theorem dJ6_numberOfTrailingZeros_0f7a4_45 : decode cJ6_numberOfTrailingZeros_0f7a4 45 = .ok (.bipush 8, 2) := by decide +kernel
theorem dJ6_numberOfTrailingZeros_0f7a4_47 : decode cJ6_numberOfTrailingZeros_0f7a4 47 = .ok (.iushr, 1) := by decide +kernel
theorem dJ6_numberOfTrailingZeros_0f7a4_48 : decode cJ6_numberOfTrailingZeros_0f7a4 48 = .ok (.istore_n 0, 1) := by decide +kernel
theorem dJ6_numberOfTrailingZeros_0f7a4_49 : decode cJ6_numberOfTrailingZeros_0f7a4 49 = .ok (.iload_n 0, 1) := by decide +kernel
theorem dJ6_numberOfTrailingZeros_0f7a4_50 : decode cJ6_numberOfTrailingZeros_0f7a4 50 = .ok (.bipush 16, 2) := by decide +kernel
theorem dJ6_numberOfTrailingZeros_0f7a4_52 : decode cJ6_numberOfTrailingZeros_0f7a4 52 = .ok (.if_icmp .le 10, 3) := by decide +kernel
theorem dJ6_numberOfTrailingZeros_0f7a4_55 : decode cJ6_numberOfTrailingZeros_0f7a4 55 = .ok (.iinc 1 4, 3) := by decide +kernel
theorem dJ6_numberOfTrailingZeros_0f7a4_58 : decode cJ6_numberOfTrailingZeros_0f7a4 58 = .ok (.iload_n 0, 1) := by decide +kernel
theorem dJ6_numberOfTrailingZeros_0f7a4_59 : decode cJ6_numberOfTrailingZeros_0f7a4 59 = .ok (.iconst 4, 1) := by decide +kernel
theorem dJ6_numberOfTrailingZeros_0f7a4_60 : decode cJ6_numberOfTrailingZeros_0f7a4 60 = .ok (.iushr, 1) := by decide +kernel
theorem dJ6_numberOfTrailingZeros_0f7a4_61 : decode cJ6_numberOfTrailingZeros_0f7a4 61 = .ok (.istore_n 0, 1) := by decide +kernel
theorem dJ6_numberOfTrailingZeros_0f7a4_62 : decode cJ6_numberOfTrailingZeros_0f7a4 62 = .ok (.iload_n 0, 1) := by decide +kernel
theorem dJ6_numberOfTrailingZeros_0f7a4_63 : decode cJ6_numberOfTrailingZeros_0f7a4 63 = .ok (.iconst 4, 1) := by decide +kernel
theorem dJ6_numberOfTrailingZeros_0f7a4_64 : decode cJ6_numberOfTrailingZeros_0f7a4 64 = .ok (.if_icmp .le 10, 3) := by decide +kernel
theorem dJ6_numberOfTrailingZeros_0f7a4_67 : decode cJ6_numberOfTrailingZeros_0f7a4 67 = .ok (.iinc 1 2, 3) := by decide +kernel
theorem dJ6_numberOfTrailingZeros_0f7a4_70 : decode cJ6_numberOfTrailingZeros_0f7a4 70 = .ok (.iload_n 0, 1) := by decide +kernel
theorem dJ6_numberOfTrailingZeros_0f7a4_71 : decode cJ6_numberOfTrailingZeros_0f7a4 71 = .ok (.iconst 2, 1) := by decide +kernel
theorem dJ6_numberOfTrailingZeros_0f7a4_72 : decode cJ6_numberOfTrailingZeros_0f7a4 72 = .ok (.iushr, 1) := by decide +kernel
theorem dJ6_numberOfTrailingZeros_0f7a4_73 : decode cJ6_numberOfTrailingZeros_0f7a4 73 = .ok (.istore_n 0, 1) := by decide +kernel
theorem dJ6_numberOfTrailingZeros_0f7a4_74 : decode cJ6_numberOfTrailingZeros_0f7a4 74 = .ok (.iload_n 1, 1) := by decide +kernel
theorem dJ6_numberOfTrailingZeros_0f7a4_75 : decode cJ6_numberOfTrailingZeros_0f7a4 75 = .ok (.iload_n 0, 1) := by decide +kernel
theorem dJ6_numberOfTrailingZeros_0f7a4_76 : decode cJ6_numberOfTrailingZeros_0f7a4 76 = .ok (.iconst 1, 1) := by decide +kernel
theorem dJ6_numberOfTrailingZeros_0f7a4_77 : decode cJ6_numberOfTrailingZeros_0f7a4 77 = .ok (.iushr, 1) := by decide +kernel
theorem dJ6_numberOfTrailingZeros_0f7a4_78 : decode cJ6_numberOfTrailingZeros_0f7a4 78 = .ok (.iadd, 1) := by decide +kernel
theorem dJ6_numberOfTrailingZeros_0f7a4_79 : decode cJ6_numberOfTrailingZeros_0f7a4 79 = .ok (.ireturn, 1) := by decide +kernel
theorem dX12_duel_0 : decode cX12_duel 0 = .ok (.aload_n 0, 1) := by decide +kernel
theorem dX12_duel_1 : decode cX12_duel 1 = .ok (.iconst 0, 1) := by decide +kernel
theorem dX12_duel_2 : decode cX12_duel 2 = .ok (.putfield 111, 3) := by decide +kernel
theorem dX12_duel_5 : decode cX12_duel 5 = .ok (.aload_n 0, 1) := by decide +kernel
theorem dX12_duel_6 : decode cX12_duel 6 = .ok (.iload_n 1, 1) := by decide +kernel
theorem dX12_duel_7 : decode cX12_duel 7 = .ok (.iload_n 2, 1) := by decide +kernel
theorem dX12_duel_8 : decode cX12_duel 8 = .ok (.iload_n 3, 1) := by decide +kernel
theorem dX12_duel_9 : decode cX12_duel 9 = .ok (.iload 4, 2) := by decide +kernel
theorem dX12_duel_11 : decode cX12_duel 11 = .ok (.invokevirtual 405, 3) := by decide +kernel
theorem dX12_duel_14 : decode cX12_duel 14 = .ok (.ifCond .eq 16, 3) := by decide +kernel
theorem dX12_duel_17 : decode cX12_duel 17 = .ok (.iload 5, 2) := by decide +kernel
theorem dX12_duel_19 : decode cX12_duel 19 = .ok (.i2l, 1) := by decide +kernel
theorem dX12_duel_20 : decode cX12_duel 20 = .ok (.lconst 0, 1) := by decide +kernel
theorem dX12_duel_21 : decode cX12_duel 21 = .ok (.ldc2_w 325, 3) := by decide +kernel
theorem dX12_duel_24 : decode cX12_duel 24 = .ok (.invokestatic 129, 3) := by decide +kernel
theorem dX12_duel_27 : decode cX12_duel 27 = .ok (.ifCond .ne 5, 3) := by decide +kernel
theorem dX12_duel_30 : decode cX12_duel 30 = .ok (.iconst (-1), 1) := by decide +kernel
theorem dX12_duel_31 : decode cX12_duel 31 = .ok (.ireturn, 1) := by decide +kernel
theorem dX12_duel_32 : decode cX12_duel 32 = .ok (.aload_n 0, 1) := by decide +kernel
theorem dX12_duel_33 : decode cX12_duel 33 = .ok (.invokevirtual 409, 3) := by decide +kernel
theorem dX12_duel_36 : decode cX12_duel 36 = .ok (.aload_n 0, 1) := by decide +kernel
theorem dX12_duel_37 : decode cX12_duel 37 = .ok (.iload_n 1, 1) := by decide +kernel
theorem dX12_duel_38 : decode cX12_duel 38 = .ok (.putfield 425, 3) := by decide +kernel
theorem dX12_duel_41 : decode cX12_duel 41 = .ok (.aload_n 0, 1) := by decide +kernel
theorem dX12_duel_42 : decode cX12_duel 42 = .ok (.iload_n 2, 1) := by decide +kernel
theorem dX12_duel_43 : decode cX12_duel 43 = .ok (.putfield 428, 3) := by decide +kernel
theorem dX12_duel_46 : decode cX12_duel 46 = .ok (.aload_n 0, 1) := by decide +kernel
theorem dX12_duel_47 : decode cX12_duel 47 = .ok (.iload_n 3, 1) := by decide +kernel
theorem dX12_duel_48 : decode cX12_duel 48 = .ok (.putfield 431, 3) := by decide +kernel
theorem dX12_duel_51 : decode cX12_duel 51 = .ok (.aload_n 0, 1) := by decide +kernel
theorem dX12_duel_52 : decode cX12_duel 52 = .ok (.iload 4, 2) := by decide +kernel
theorem dX12_duel_54 : decode cX12_duel 54 = .ok (.putfield 434, 3) := by decide +kernel
theorem dX12_duel_57 : decode cX12_duel 57 = .ok (.iconst 0, 1) := by decide +kernel
theorem dX12_duel_58 : decode cX12_duel 58 = .ok (.istore 6, 2) := by decide +kernel
theorem dX12_duel_60 : decode cX12_duel 60 = .ok (.iload 6, 2) := by decide +kernel
theorem dX12_duel_62 : decode cX12_duel 62 = .ok (.sipush 4096, 3) := by decide +kernel
theorem dX12_duel_65 : decode cX12_duel 65 = .ok (.if_icmp .ge 17, 3) := by decide +kernel
theorem dX12_duel_68 : decode cX12_duel 68 = .ok (.aload_n 0, 1) := by decide +kernel
theorem dX12_duel_69 : decode cX12_duel 69 = .ok (.getfield 86, 3) := by decide +kernel
theorem dX12_duel_72 : decode cX12_duel 72 = .ok (.iload 6, 2) := by decide +kernel
theorem dX12_duel_74 : decode cX12_duel 74 = .ok (.iconst (-1), 1) := by decide +kernel
theorem dX12_duel_75 : decode cX12_duel 75 = .ok (.iastore, 1) := by decide +kernel
theorem dX12_duel_76 : decode cX12_duel 76 = .ok (.iinc 6 1, 3) := by decide +kernel
theorem dX12_duel_79 : decode cX12_duel 79 = .ok (.goto (-19), 3) := by decide +kernel
theorem dX12_duel_82 : decode cX12_duel 82 = .ok (.aload_n 0, 1) := by decide +kernel
theorem dX12_duel_83 : decode cX12_duel 83 = .ok (.getfield 29, 3) := by decide +kernel
theorem dX12_duel_86 : decode cX12_duel 86 = .ok (.bipush 42, 2) := by decide +kernel
theorem dX12_duel_88 : decode cX12_duel 88 = .ok (.iaload, 1) := by decide +kernel
theorem dX12_duel_89 : decode cX12_duel 89 = .ok (.istore 6, 2) := by decide +kernel
theorem dX12_duel_91 : decode cX12_duel 91 = .ok (.aload_n 0, 1) := by decide +kernel
theorem dX12_duel_92 : decode cX12_duel 92 = .ok (.iload 6, 2) := by decide +kernel
theorem dX12_duel_94 : decode cX12_duel 94 = .ok (.iload 5, 2) := by decide +kernel
theorem dX12_duel_96 : decode cX12_duel 96 = .ok (.iload 5, 2) := by decide +kernel
theorem dX12_duel_98 : decode cX12_duel 98 = .ok (.invokevirtual 440, 3) := by decide +kernel
theorem dX12_duel_101 : decode cX12_duel 101 = .ok (.istore 7, 2) := by decide +kernel
theorem dX12_duel_103 : decode cX12_duel 103 = .ok (.iconst (-1), 1) := by decide +kernel
theorem dX12_duel_104 : decode cX12_duel 104 = .ok (.istore 8, 2) := by decide +kernel
theorem dX12_duel_106 : decode cX12_duel 106 = .ok (.iload 5, 2) := by decide +kernel
theorem dX12_duel_108 : decode cX12_duel 108 = .ok (.ifCond .le 62, 3) := by decide +kernel
theorem dX12_duel_111 : decode cX12_duel 111 = .ok (.aload_n 0, 1) := by decide +kernel
theorem dX12_duel_112 : decode cX12_duel 112 = .ok (.iload 6, 2) := by decide +kernel
theorem dX12_duel_114 : decode cX12_duel 114 = .ok (.iload 5, 2) := by decide +kernel
theorem dX12_duel_116 : decode cX12_duel 116 = .ok (.iconst 1, 1) := by decide +kernel
theorem dX12_duel_117 : decode cX12_duel 117 = .ok (.isub, 1) := by decide +kernel
theorem dX12_duel_118 : decode cX12_duel 118 = .ok (.iload 5, 2) := by decide +kernel
theorem dX12_duel_120 : decode cX12_duel 120 = .ok (.invokevirtual 440, 3) := by decide +kernel
theorem dX12_duel_123 : decode cX12_duel 123 = .ok (.iload 7, 2) := by decide +kernel
theorem dX12_duel_125 : decode cX12_duel 125 = .ok (.if_icmp .eq 45, 3) := by decide +kernel
theorem dX12_duel_128 : decode cX12_duel 128 = .ok (.iconst 0, 1) := by decide +kernel
theorem dX12_duel_129 : decode cX12_duel 129 = .ok (.istore 8, 2) := by decide +kernel
theorem dX12_duel_131 : decode cX12_duel 131 = .ok (.aload_n 0, 1) := by decide +kernel
theorem dX12_duel_132 : decode cX12_duel 132 = .ok (.getfield 13, 3) := by decide +kernel
theorem dX12_duel_135 : decode cX12_duel 135 = .ok (.iload 8, 2) := by decide +kernel
theorem dX12_duel_137 : decode cX12_duel 137 = .ok (.iaload, 1) := by decide +kernel
theorem dX12_duel_138 : decode cX12_duel 138 = .ok (.iconst 1, 1) := by decide +kernel
theorem dX12_duel_139 : decode cX12_duel 139 = .ok (.if_icmp .ne 25, 3) := by decide +kernel
theorem dX12_duel_142 : decode cX12_duel 142 = .ok (.aload_n 0, 1) := by decide +kernel
theorem dX12_duel_143 : decode cX12_duel 143 = .ok (.iload 6, 2) := by decide +kernel
theorem dX12_duel_145 : decode cX12_duel 145 = .ok (.iconst 1, 1) := by decide +kernel
theorem dX12_duel_146 : decode cX12_duel 146 = .ok (.iload 8, 2) := by decide +kernel
theorem dX12_duel_148 : decode cX12_duel 148 = .ok (.ishl, 1) := by decide +kernel
theorem dX12_duel_149 : decode cX12_duel 149 = .ok (.ixor, 1) := by decide +kernel
theorem dX12_duel_150 : decode cX12_duel 150 = .ok (.iload 5, 2) := by decide +kernel
theorem dX12_duel_152 : decode cX12_duel 152 = .ok (.iconst 1, 1) := by decide +kernel
theorem dX12_duel_153 : decode cX12_duel 153 = .ok (.isub, 1) := by decide +kernel
theorem dX12_duel_154 : decode cX12_duel 154 = .ok (.iload 5, 2) := by decide +kernel
theorem dX12_duel_156 : decode cX12_duel 156 = .ok (.invokevirtual 440, 3) := by decide +kernel
theorem dX12_duel_159 : decode cX12_duel 159 = .ok (.iload 7, 2) := by decide +kernel
theorem dX12_duel_161 : decode cX12_duel 161 = .ok (.if_icmp .eq 9, 3) := by decide +kernel
theorem dX12_duel_164 : decode cX12_duel 164 = .ok (.iinc 8 1, 3) := by decide +kernel
theorem dX12_duel_167 : decode cX12_duel 167 = .ok (.goto (-36), 3) := by decide +kernel
theorem dX12_duel_170 : decode cX12_duel 170 = .ok (.aload_n 0, 1) := by decide +kernel
theorem dX12_duel_171 : decode cX12_duel 171 = .ok (.iconst 0, 1) := by decide +kernel
theorem dX12_duel_172 : decode cX12_duel 172 = .ok (.putfield 119, 3) := by decide +kernel
theorem dX12_duel_175 : decode cX12_duel 175 = .ok (.aload_n 0, 1) := by decide +kernel
theorem dX12_duel_176 : decode cX12_duel 176 = .ok (.iload 8, 2) := by decide +kernel
theorem dX12_duel_178 : decode cX12_duel 178 = .ok (.i2l, 1) := by decide +kernel
theorem dX12_duel_179 : decode cX12_duel 179 = .ok (.invokevirtual 122, 3) := by decide +kernel
theorem dX12_duel_182 : decode cX12_duel 182 = .ok (.iload 7, 2) := by decide +kernel
theorem dX12_duel_184 : decode cX12_duel 184 = .ok (.ireturn, 1) := by decide +kernel
theorem dX12_end_0 : decode cX12_end 0 = .ok (.aload_n 0, 1) := by decide +kernel
theorem dX12_end_1 : decode cX12_end 1 = .ok (.iconst 0, 1) := by decide +kernel
theorem dX12_end_2 : decode cX12_end 2 = .ok (.putfield 111, 3) := by decide +kernel
theorem dX12_end_5 : decode cX12_end 5 = .ok (.iload_n 1, 1) := by decide +kernel
theorem dX12_end_6 : decode cX12_end 6 = .ok (.i2l, 1) := by decide +kernel
theorem dX12_end_7 : decode cX12_end 7 = .ok (.lconst 0, 1) := by decide +kernel
theorem dX12_end_8 : decode cX12_end 8 = .ok (.aload_n 0, 1) := by decide +kernel
theorem dX12_end_9 : decode cX12_end 9 = .ok (.getfield 137, 3) := by decide +kernel
theorem dX12_end_12 : decode cX12_end 12 = .ok (.i2l, 1) := by decide +kernel
theorem dX12_end_13 : decode cX12_end 13 = .ok (.invokestatic 129, 3) := by decide +kernel
theorem dX12_end_16 : decode cX12_end 16 = .ok (.ifCond .ne 5, 3) := by decide +kernel
theorem dX12_end_19 : decode cX12_end 19 = .ok (.iconst 0, 1) := by decide +kernel
theorem dX12_end_20 : decode cX12_end 20 = .ok (.ireturn, 1) := by decide +kernel
theorem dX12_end_21 : decode cX12_end 21 = .ok (.aload_n 0, 1) := by decide +kernel
theorem dX12_end_22 : decode cX12_end 22 = .ok (.iload_n 1, 1) := by decide +kernel
theorem dX12_end_23 : decode cX12_end 23 = .ok (.putfield 137, 3) := by decide +kernel
theorem dX12_end_26 : decode cX12_end 26 = .ok (.iconst 1, 1) := by decide +kernel
theorem dX12_end_27 : decode cX12_end 27 = .ok (.ireturn, 1) := by decide +kernel
theorem dX12_entersFraction_0 : decode cX12_entersFraction 0 = .ok (.lload_n 1, 1) := by decide +kernel
theorem dX12_entersFraction_1 : decode cX12_entersFraction 1 = .ok (.lload_n 3, 1) := by decide +kernel
theorem dX12_entersFraction_2 : decode cX12_entersFraction 2 = .ok (.invokestatic 115, 3) := by decide +kernel
theorem dX12_entersFraction_5 : decode cX12_entersFraction 5 = .ok (.lstore 5, 2) := by decide +kernel
theorem dX12_entersFraction_7 : decode cX12_entersFraction 7 = .ok (.aload_n 0, 1) := by decide +kernel
theorem dX12_entersFraction_8 : decode cX12_entersFraction 8 = .ok (.lload_n 1, 1) := by decide +kernel
theorem dX12_entersFraction_9 : decode cX12_entersFraction 9 = .ok (.lload 5, 2) := by decide +kernel
theorem dX12_entersFraction_11 : decode cX12_entersFraction 11 = .ok (.ldiv, 1) := by decide +kernel
theorem dX12_entersFraction_12 : decode cX12_entersFraction 12 = .ok (.invokevirtual 122, 3) := by decide +kernel
theorem dX12_entersFraction_15 : decode cX12_entersFraction 15 = .ok (.aload_n 0, 1) := by decide +kernel
theorem dX12_entersFraction_16 : decode cX12_entersFraction 16 = .ok (.lload_n 3, 1) := by decide +kernel
theorem dX12_entersFraction_17 : decode cX12_entersFraction 17 = .ok (.lload 5, 2) := by decide +kernel
theorem dX12_entersFraction_19 : decode cX12_entersFraction 19 = .ok (.ldiv, 1) := by decide +kernel
theorem dX12_entersFraction_20 : decode cX12_entersFraction 20 = .ok (.invokevirtual 122, 3) := by decide +kernel
theorem dX12_entersFraction_23 : decode cX12_entersFraction 23 = .ok (.return_, 1) := by decide +kernel
theorem dX12_floatsTo_0 : decode cX12_floatsTo 0 = .ok (.aload_n 0, 1) := by decide +kernel
theorem dX12_floatsTo_1 : decode cX12_floatsTo 1 = .ok (.iload_n 3, 1) := by decide +kernel
theorem dX12_floatsTo_2 : decode cX12_floatsTo 2 = .ok (.putfield 389, 3) := by decide +kernel
theorem dX12_floatsTo_5 : decode cX12_floatsTo 5 = .ok (.aload_n 0, 1) := by decide +kernel
theorem dX12_floatsTo_6 : decode cX12_floatsTo 6 = .ok (.iload_n 2, 1) := by decide +kernel
theorem dX12_floatsTo_7 : decode cX12_floatsTo 7 = .ok (.putfield 392, 3) := by decide +kernel
theorem dX12_floatsTo_10 : decode cX12_floatsTo 10 = .ok (.aload_n 0, 1) := by decide +kernel
theorem dX12_floatsTo_11 : decode cX12_floatsTo 11 = .ok (.iload_n 1, 1) := by decide +kernel
theorem dX12_floatsTo_12 : decode cX12_floatsTo 12 = .ok (.bipush 99, 2) := by decide +kernel
theorem dX12_floatsTo_14 : decode cX12_floatsTo 14 = .ok (.iconst 0, 1) := by decide +kernel
theorem dX12_floatsTo_15 : decode cX12_floatsTo 15 = .ok (.iconst 0, 1) := by decide +kernel
theorem dX12_floatsTo_16 : decode cX12_floatsTo 16 = .ok (.invokevirtual 399, 3) := by decide +kernel
theorem dX12_floatsTo_19 : decode cX12_floatsTo 19 = .ok (.pop, 1) := by decide +kernel
theorem dX12_floatsTo_20 : decode cX12_floatsTo 20 = .ok (.aload_n 0, 1) := by decide +kernel
theorem dX12_floatsTo_21 : decode cX12_floatsTo 21 = .ok (.getfield 83, 3) := by decide +kernel
theorem dX12_floatsTo_24 : decode cX12_floatsTo 24 = .ok (.iconst 4, 1) := by decide +kernel
theorem dX12_floatsTo_25 : decode cX12_floatsTo 25 = .ok (.iaload, 1) := by decide +kernel
theorem dX12_floatsTo_26 : decode cX12_floatsTo 26 = .ok (.iconst 1, 1) := by decide +kernel
theorem dX12_floatsTo_27 : decode cX12_floatsTo 27 = .ok (.if_icmp .ne 12, 3) := by decide +kernel
theorem dX12_floatsTo_30 : decode cX12_floatsTo 30 = .ok (.aload_n 0, 1) := by decide +kernel
theorem dX12_floatsTo_31 : decode cX12_floatsTo 31 = .ok (.getfield 83, 3) := by decide +kernel
theorem dX12_floatsTo_34 : decode cX12_floatsTo 34 = .ok (.iconst 0, 1) := by decide +kernel
theorem dX12_floatsTo_35 : decode cX12_floatsTo 35 = .ok (.iaload, 1) := by decide +kernel
theorem dX12_floatsTo_36 : decode cX12_floatsTo 36 = .ok (.goto 4, 3) := by decide +kernel
theorem dX12_floatsTo_39 : decode cX12_floatsTo 39 = .ok (.iconst (-1), 1) := by decide +kernel
theorem dX12_floatsTo_40 : decode cX12_floatsTo 40 = .ok (.ireturn, 1) := by decide +kernel
theorem dX12_flow_0 : decode cX12_flow 0 = .ok (.aload_n 0, 1) := by decide +kernel
theorem dX12_flow_1 : decode cX12_flow 1 = .ok (.iconst 0, 1) := by decide +kernel
theorem dX12_flow_2 : decode cX12_flow 2 = .ok (.putfield 111, 3) := by decide +kernel
theorem dX12_flow_5 : decode cX12_flow 5 = .ok (.iload_n 1, 1) := by decide +kernel
theorem dX12_flow_6 : decode cX12_flow 6 = .ok (.i2l, 1) := by decide +kernel
theorem dX12_flow_7 : decode cX12_flow 7 = .ok (.lconst 0, 1) := by decide +kernel
theorem dX12_flow_8 : decode cX12_flow 8 = .ok (.ldc2_w 314, 3) := by decide +kernel
theorem dX12_flow_11 : decode cX12_flow 11 = .ok (.invokestatic 129, 3) := by decide +kernel
theorem dX12_flow_14 : decode cX12_flow 14 = .ok (.ifCond .eq 11, 3) := by decide +kernel
theorem dX12_flow_17 : decode cX12_flow 17 = .ok (.aload_n 0, 1) := by decide +kernel
theorem dX12_flow_18 : decode cX12_flow 18 = .ok (.iload_n 1, 1) := by decide +kernel
theorem dX12_flow_19 : decode cX12_flow 19 = .ok (.invokevirtual 268, 3) := by decide +kernel
theorem dX12_flow_22 : decode cX12_flow 22 = .ok (.goto 4, 3) := by decide +kernel
theorem dX12_flow_25 : decode cX12_flow 25 = .ok (.iconst (-1), 1) := by decide +kernel
theorem dX12_flow_26 : decode cX12_flow 26 = .ok (.ireturn, 1) := by decide +kernel
theorem dX12_forget_0 : decode cX12_forget 0 = .ok (.aload_n 0, 1) := by decide +kernel
theorem dX12_forget_1 : decode cX12_forget 1 = .ok (.iconst 0, 1) := by decide +kernel
theorem dX12_forget_2 : decode cX12_forget 2 = .ok (.putfield 111, 3) := by decide +kernel
theorem dX12_forget_5 : decode cX12_forget 5 = .ok (.aload_n 0, 1) := by decide +kernel
theorem dX12_forget_6 : decode cX12_forget 6 = .ok (.getfield 217, 3) := by decide +kernel
theorem dX12_forget_9 : decode cX12_forget 9 = .ok (.istore_n 1, 1) := by decide +kernel
theorem dX12_forget_10 : decode cX12_forget 10 = .ok (.aload_n 0, 1) := by decide +kernel
theorem dX12_forget_11 : decode cX12_forget 11 = .ok (.iconst 0, 1) := by decide +kernel
theorem dX12_forget_12 : decode cX12_forget 12 = .ok (.putfield 217, 3) := by decide +kernel
theorem dX12_forget_15 : decode cX12_forget 15 = .ok (.iload_n 1, 1) := by decide +kernel
theorem dX12_forget_16 : decode cX12_forget 16 = .ok (.ireturn, 1) := by decide +kernel
theorem dX12_give_0 : decode cX12_give 0 = .ok (.aload_n 0, 1) := by decide +kernel
theorem dX12_give_1 : decode cX12_give 1 = .ok (.iconst 0, 1) := by decide +kernel
theorem dX12_give_2 : decode cX12_give 2 = .ok (.putfield 111, 3) := by decide +kernel
theorem dX12_give_5 : decode cX12_give 5 = .ok (.aload_n 0, 1) := by decide +kernel
theorem dX12_give_6 : decode cX12_give 6 = .ok (.invokevirtual 319, 3) := by decide +kernel
theorem dX12_give_9 : decode cX12_give 9 = .ok (.aload_n 0, 1) := by decide +kernel
theorem dX12_give_10 : decode cX12_give 10 = .ok (.iload_n 1, 1) := by decide +kernel
theorem dX12_give_11 : decode cX12_give 11 = .ok (.iload_n 2, 1) := by decide +kernel
theorem dX12_give_12 : decode cX12_give 12 = .ok (.invokevirtual 343, 3) := by decide +kernel
theorem dX12_give_15 : decode cX12_give 15 = .ok (.istore_n 3, 1) := by decide +kernel
theorem dX12_give_16 : decode cX12_give 16 = .ok (.iload_n 3, 1) := by decide +kernel
theorem dX12_give_17 : decode cX12_give 17 = .ok (.ifCond .ge 7, 3) := by decide +kernel
theorem dX12_give_20 : decode cX12_give 20 = .ok (.iload_n 3, 1) := by decide +kernel
theorem dX12_give_21 : decode cX12_give 21 = .ok (.goto 8, 3) := by decide +kernel
theorem dX12_give_24 : decode cX12_give 24 = .ok (.aload_n 0, 1) := by decide +kernel
theorem dX12_give_25 : decode cX12_give 25 = .ok (.iload_n 3, 1) := by decide +kernel
theorem dX12_give_26 : decode cX12_give 26 = .ok (.invokevirtual 322, 3) := by decide +kernel
theorem dX12_give_29 : decode cX12_give 29 = .ok (.ireturn, 1) := by decide +kernel
theorem dX12_goesOn_0 : decode cX12_goesOn 0 = .ok (.aload_n 0, 1) := by decide +kernel
theorem dX12_goesOn_1 : decode cX12_goesOn 1 = .ok (.getfield 29, 3) := by decide +kernel
theorem dX12_goesOn_4 : decode cX12_goesOn 4 = .ok (.aload_n 0, 1) := by decide +kernel
theorem dX12_goesOn_5 : decode cX12_goesOn 5 = .ok (.getfield 32, 3) := by decide +kernel
theorem dX12_goesOn_8 : decode cX12_goesOn 8 = .ok (.invokestatic 374, 3) := by decide +kernel
theorem dX12_goesOn_11 : decode cX12_goesOn 11 = .ok (.iconst 0, 1) := by decide +kernel
theorem dX12_goesOn_12 : decode cX12_goesOn 12 = .ok (.istore_n 2, 1) := by decide +kernel
theorem dX12_goesOn_13 : decode cX12_goesOn 13 = .ok (.iload_n 2, 1) := by decide +kernel
theorem dX12_goesOn_14 : decode cX12_goesOn 14 = .ok (.iload_n 1, 1) := by decide +kernel
theorem dX12_goesOn_15 : decode cX12_goesOn 15 = .ok (.if_icmp .ge 17, 3) := by decide +kernel
theorem dX12_goesOn_18 : decode cX12_goesOn 18 = .ok (.aload_n 0, 1) := by decide +kernel
theorem dX12_goesOn_19 : decode cX12_goesOn 19 = .ok (.aload_n 0, 1) := by decide +kernel
theorem dX12_goesOn_20 : decode cX12_goesOn 20 = .ok (.getfield 32, 3) := by decide +kernel
theorem dX12_goesOn_23 : decode cX12_goesOn 23 = .ok (.invokevirtual 349, 3) := by decide +kernel
theorem dX12_goesOn_26 : decode cX12_goesOn 26 = .ok (.iinc 2 1, 3) := by decide +kernel
theorem dX12_goesOn_29 : decode cX12_goesOn 29 = .ok (.goto (-16), 3) := by decide +kernel
theorem dX12_goesOn_32 : decode cX12_goesOn 32 = .ok (.return_, 1) := by decide +kernel
theorem dX12_homes_0 : decode cX12_homes 0 = .ok (.aload_n 0, 1) := by decide +kernel
theorem dX12_homes_1 : decode cX12_homes 1 = .ok (.iconst 0, 1) := by decide +kernel
theorem dX12_homes_2 : decode cX12_homes 2 = .ok (.putfield 111, 3) := by decide +kernel
theorem dX12_homes_5 : decode cX12_homes 5 = .ok (.iload_n 1, 1) := by decide +kernel
theorem dX12_homes_6 : decode cX12_homes 6 = .ok (.i2l, 1) := by decide +kernel
theorem dX12_homes_7 : decode cX12_homes 7 = .ok (.lconst 0, 1) := by decide +kernel
theorem dX12_homes_8 : decode cX12_homes 8 = .ok (.ldc2_w 378, 3) := by decide +kernel
theorem dX12_homes_11 : decode cX12_homes 11 = .ok (.invokestatic 129, 3) := by decide +kernel
theorem dX12_homes_14 : decode cX12_homes 14 = .ok (.ifCond .ne 5, 3) := by decide +kernel
theorem dX12_homes_17 : decode cX12_homes 17 = .ok (.iconst (-1), 1) := by decide +kernel
theorem dX12_homes_18 : decode cX12_homes 18 = .ok (.ireturn, 1) := by decide +kernel
theorem dX12_homes_19 : decode cX12_homes 19 = .ok (.aload_n 0, 1) := by decide +kernel
theorem dX12_homes_20 : decode cX12_homes 20 = .ok (.iload_n 1, 1) := by decide +kernel
theorem dX12_homes_21 : decode cX12_homes 21 = .ok (.invokevirtual 380, 3) := by decide +kernel
theorem dX12_homes_24 : decode cX12_homes 24 = .ok (.aload_n 0, 1) := by decide +kernel
theorem dX12_homes_25 : decode cX12_homes 25 = .ok (.iconst 0, 1) := by decide +kernel
theorem dX12_homes_26 : decode cX12_homes 26 = .ok (.putfield 119, 3) := by decide +kernel
theorem dX12_homes_29 : decode cX12_homes 29 = .ok (.aload_n 0, 1) := by decide +kernel
theorem dX12_homes_30 : decode cX12_homes 30 = .ok (.aload_n 0, 1) := by decide +kernel
theorem dX12_homes_31 : decode cX12_homes 31 = .ok (.getfield 32, 3) := by decide +kernel
theorem dX12_homes_34 : decode cX12_homes 34 = .ok (.iconst 2, 1) := by decide +kernel
theorem dX12_homes_35 : decode cX12_homes 35 = .ok (.invokestatic 346, 3) := by decide +kernel
theorem dX12_homes_38 : decode cX12_homes 38 = .ok (.i2l, 1) := by decide +kernel
theorem dX12_homes_39 : decode cX12_homes 39 = .ok (.invokevirtual 122, 3) := by decide +kernel
theorem dX12_homes_42 : decode cX12_homes 42 = .ok (.aload_n 0, 1) := by decide +kernel
theorem dX12_homes_43 : decode cX12_homes 43 = .ok (.aload_n 0, 1) := by decide +kernel
theorem dX12_homes_44 : decode cX12_homes 44 = .ok (.getfield 32, 3) := by decide +kernel
theorem dX12_homes_47 : decode cX12_homes 47 = .ok (.iconst 0, 1) := by decide +kernel
theorem dX12_homes_48 : decode cX12_homes 48 = .ok (.invokestatic 346, 3) := by decide +kernel
theorem dX12_homes_51 : decode cX12_homes 51 = .ok (.i2l, 1) := by decide +kernel
theorem dX12_homes_52 : decode cX12_homes 52 = .ok (.invokevirtual 122, 3) := by decide +kernel
theorem dX12_homes_55 : decode cX12_homes 55 = .ok (.aload_n 0, 1) := by decide +kernel
theorem dX12_homes_56 : decode cX12_homes 56 = .ok (.getfield 32, 3) := by decide +kernel
theorem dX12_homes_59 : decode cX12_homes 59 = .ok (.iconst 1, 1) := by decide +kernel
theorem dX12_homes_60 : decode cX12_homes 60 = .ok (.invokestatic 346, 3) := by decide +kernel
theorem dX12_homes_63 : decode cX12_homes 63 = .ok (.ireturn, 1) := by decide +kernel
theorem dX12_keep_0 : decode cX12_keep 0 = .ok (.aload_n 0, 1) := by decide +kernel
theorem dX12_keep_1 : decode cX12_keep 1 = .ok (.iconst 0, 1) := by decide +kernel
theorem dX12_keep_2 : decode cX12_keep 2 = .ok (.putfield 111, 3) := by decide +kernel
theorem dX12_keep_5 : decode cX12_keep 5 = .ok (.iload_n 1, 1) := by decide +kernel
theorem dX12_keep_6 : decode cX12_keep 6 = .ok (.i2l, 1) := by decide +kernel
theorem dX12_keep_7 : decode cX12_keep 7 = .ok (.lconst 0, 1) := by decide +kernel
theorem dX12_keep_8 : decode cX12_keep 8 = .ok (.ldc2_w 461, 3) := by decide +kernel
theorem dX12_keep_11 : decode cX12_keep 11 = .ok (.invokestatic 129, 3) := by decide +kernel
theorem dX12_keep_14 : decode cX12_keep 14 = .ok (.ifCond .ne 5, 3) := by decide +kernel
theorem dX12_keep_17 : decode cX12_keep 17 = .ok (.iconst 0, 1) := by decide +kernel
theorem dX12_keep_18 : decode cX12_keep 18 = .ok (.ireturn, 1) := by decide +kernel
theorem dX12_keep_19 : decode cX12_keep 19 = .ok (.aload_n 0, 1) := by decide +kernel
theorem dX12_keep_20 : decode cX12_keep 20 = .ok (.getfield 105, 3) := by decide +kernel
theorem dX12_keep_23 : decode cX12_keep 23 = .ok (.iload_n 1, 1) := by decide +kernel
theorem dX12_keep_24 : decode cX12_keep 24 = .ok (.iconst 1, 1) := by decide +kernel
theorem dX12_keep_25 : decode cX12_keep 25 = .ok (.bastore, 1) := by decide +kernel
theorem dX12_keep_26 : decode cX12_keep 26 = .ok (.iconst 0, 1) := by decide +kernel
theorem dX12_keep_27 : decode cX12_keep 27 = .ok (.istore_n 2, 1) := by decide +kernel
theorem dX12_keep_28 : decode cX12_keep 28 = .ok (.iload_n 2, 1) := by decide +kernel
theorem dX12_keep_29 : decode cX12_keep 29 = .ok (.bipush 45, 2) := by decide +kernel
theorem dX12_keep_31 : decode cX12_keep 31 = .ok (.if_icmp .ge 26, 3) := by decide +kernel
theorem dX12_keep_34 : decode cX12_keep 34 = .ok (.aload_n 0, 1) := by decide +kernel
theorem dX12_keep_35 : decode cX12_keep 35 = .ok (.getfield 108, 3) := by decide +kernel
theorem dX12_keep_38 : decode cX12_keep 38 = .ok (.bipush 45, 2) := by decide +kernel
theorem dX12_keep_40 : decode cX12_keep 40 = .ok (.iload_n 1, 1) := by decide +kernel
theorem dX12_keep_41 : decode cX12_keep 41 = .ok (.imul, 1) := by decide +kernel
theorem dX12_keep_42 : decode cX12_keep 42 = .ok (.iload_n 2, 1) := by decide +kernel
theorem dX12_keep_43 : decode cX12_keep 43 = .ok (.iadd, 1) := by decide +kernel
theorem dX12_keep_44 : decode cX12_keep 44 = .ok (.aload_n 0, 1) := by decide +kernel
theorem dX12_keep_45 : decode cX12_keep 45 = .ok (.getfield 29, 3) := by decide +kernel
theorem dX12_keep_48 : decode cX12_keep 48 = .ok (.iload_n 2, 1) := by decide +kernel
theorem dX12_keep_49 : decode cX12_keep 49 = .ok (.iaload, 1) := by decide +kernel
theorem dX12_keep_50 : decode cX12_keep 50 = .ok (.iastore, 1) := by decide +kernel
theorem dX12_keep_51 : decode cX12_keep 51 = .ok (.iinc 2 1, 3) := by decide +kernel
theorem dX12_keep_54 : decode cX12_keep 54 = .ok (.goto (-26), 3) := by decide +kernel
theorem dX12_keep_57 : decode cX12_keep 57 = .ok (.iconst 1, 1) := by decide +kernel
theorem dX12_keep_58 : decode cX12_keep 58 = .ok (.ireturn, 1) := by decide +kernel
theorem dX12_laysFits_0 : decode cX12_laysFits 0 = .ok (.aload_n 0, 1) := by decide +kernel
theorem dX12_laysFits_1 : decode cX12_laysFits 1 = .ok (.invokevirtual 416, 3) := by decide +kernel
theorem dX12_laysFits_4 : decode cX12_laysFits 4 = .ok (.istore_n 1, 1) := by decide +kernel
theorem dX12_laysFits_5 : decode cX12_laysFits 5 = .ok (.iconst 0, 1) := by decide +kernel
theorem dX12_laysFits_6 : decode cX12_laysFits 6 = .ok (.istore_n 2, 1) := by decide +kernel
theorem dX12_laysFits_7 : decode cX12_laysFits 7 = .ok (.iconst 0, 1) := by decide +kernel
theorem dX12_laysFits_8 : decode cX12_laysFits 8 = .ok (.istore_n 3, 1) := by decide +kernel
theorem dX12_laysFits_9 : decode cX12_laysFits 9 = .ok (.iload_n 3, 1) := by decide +kernel
theorem dX12_laysFits_10 : decode cX12_laysFits 10 = .ok (.iload_n 1, 1) := by decide +kernel
theorem dX12_laysFits_11 : decode cX12_laysFits 11 = .ok (.if_icmp .gt 99, 3) := by decide +kernel
theorem dX12_laysFits_14 : decode cX12_laysFits 14 = .ok (.iload_n 3, 1) := by decide +kernel
theorem dX12_laysFits_15 : decode cX12_laysFits 15 = .ok (.iload_n 1, 1) := by decide +kernel
theorem dX12_laysFits_16 : decode cX12_laysFits 16 = .ok (.iconst (-1), 1) := by decide +kernel
theorem dX12_laysFits_17 : decode cX12_laysFits 17 = .ok (.ixor, 1) := by decide +kernel
theorem dX12_laysFits_18 : decode cX12_laysFits 18 = .ok (.iand, 1) := by decide +kernel
theorem dX12_laysFits_19 : decode cX12_laysFits 19 = .ok (.ifCond .ne 7, 3) := by decide +kernel
theorem dX12_laysFits_22 : decode cX12_laysFits 22 = .ok (.iconst 1, 1) := by decide +kernel
theorem dX12_laysFits_23 : decode cX12_laysFits 23 = .ok (.goto 4, 3) := by decide +kernel
theorem dX12_laysFits_26 : decode cX12_laysFits 26 = .ok (.iconst 0, 1) := by decide +kernel
theorem dX12_laysFits_27 : decode cX12_laysFits 27 = .ok (.istore 4, 2) := by decide +kernel
theorem dX12_laysFits_29 : decode cX12_laysFits 29 = .ok (.iconst 0, 1) := by decide +kernel
theorem dX12_laysFits_30 : decode cX12_laysFits 30 = .ok (.istore 5, 2) := by decide +kernel
theorem dX12_laysFits_32 : decode cX12_laysFits 32 = .ok (.iload 5, 2) := by decide +kernel
theorem dX12_laysFits_34 : decode cX12_laysFits 34 = .ok (.aload_n 0, 1) := by decide +kernel
theorem dX12_laysFits_35 : decode cX12_laysFits 35 = .ok (.getfield 217, 3) := by decide +kernel
theorem dX12_laysFits_38 : decode cX12_laysFits 38 = .ok (.if_icmp .ge 50, 3) := by decide +kernel
theorem dX12_laysFits_41 : decode cX12_laysFits 41 = .ok (.iload 4, 2) := by decide +kernel
theorem dX12_laysFits_43 : decode cX12_laysFits 43 = .ok (.ifCond .eq 45, 3) := by decide +kernel
theorem dX12_laysFits_46 : decode cX12_laysFits 46 = .ok (.aload_n 0, 1) := by decide +kernel
theorem dX12_laysFits_47 : decode cX12_laysFits 47 = .ok (.aload_n 0, 1) := by decide +kernel
theorem dX12_laysFits_48 : decode cX12_laysFits 48 = .ok (.getfield 89, 3) := by decide +kernel
theorem dX12_laysFits_51 : decode cX12_laysFits 51 = .ok (.iload 5, 2) := by decide +kernel
theorem dX12_laysFits_53 : decode cX12_laysFits 53 = .ok (.iaload, 1) := by decide +kernel
theorem dX12_laysFits_54 : decode cX12_laysFits 54 = .ok (.aload_n 0, 1) := by decide +kernel
theorem dX12_laysFits_55 : decode cX12_laysFits 55 = .ok (.getfield 92, 3) := by decide +kernel
theorem dX12_laysFits_58 : decode cX12_laysFits 58 = .ok (.iload 5, 2) := by decide +kernel
theorem dX12_laysFits_60 : decode cX12_laysFits 60 = .ok (.iaload, 1) := by decide +kernel
theorem dX12_laysFits_61 : decode cX12_laysFits 61 = .ok (.iload_n 3, 1) := by decide +kernel
theorem dX12_laysFits_62 : decode cX12_laysFits 62 = .ok (.invokevirtual 445, 3) := by decide +kernel
theorem dX12_laysFits_65 : decode cX12_laysFits 65 = .ok (.aload_n 0, 1) := by decide +kernel
theorem dX12_laysFits_66 : decode cX12_laysFits 66 = .ok (.getfield 95, 3) := by decide +kernel
theorem dX12_laysFits_69 : decode cX12_laysFits 69 = .ok (.iload 5, 2) := by decide +kernel
theorem dX12_laysFits_71 : decode cX12_laysFits 71 = .ok (.iaload, 1) := by decide +kernel
theorem dX12_laysFits_72 : decode cX12_laysFits 72 = .ok (.if_icmp .ne 7, 3) := by decide +kernel
theorem dX12_laysFits_75 : decode cX12_laysFits 75 = .ok (.iconst 1, 1) := by decide +kernel
theorem dX12_laysFits_76 : decode cX12_laysFits 76 = .ok (.goto 4, 3) := by decide +kernel
theorem dX12_laysFits_79 : decode cX12_laysFits 79 = .ok (.iconst 0, 1) := by decide +kernel
theorem dX12_laysFits_80 : decode cX12_laysFits 80 = .ok (.istore 4, 2) := by decide +kernel
theorem dX12_laysFits_82 : decode cX12_laysFits 82 = .ok (.iinc 5 1, 3) := by decide +kernel
theorem dX12_laysFits_85 : decode cX12_laysFits 85 = .ok (.goto (-53), 3) := by decide +kernel
theorem dX12_laysFits_88 : decode cX12_laysFits 88 = .ok (.aload_n 0, 1) := by decide +kernel
theorem dX12_laysFits_89 : decode cX12_laysFits 89 = .ok (.getfield 98, 3) := by decide +kernel
theorem dX12_laysFits_92 : decode cX12_laysFits 92 = .ok (.iload_n 3, 1) := by decide +kernel
theorem dX12_laysFits_93 : decode cX12_laysFits 93 = .ok (.iload 4, 2) := by decide +kernel
theorem dX12_laysFits_95 : decode cX12_laysFits 95 = .ok (.bastore, 1) := by decide +kernel
theorem dX12_laysFits_96 : decode cX12_laysFits 96 = .ok (.iload_n 2, 1) := by decide +kernel
theorem dX12_laysFits_97 : decode cX12_laysFits 97 = .ok (.iload 4, 2) := by decide +kernel
theorem dX12_laysFits_99 : decode cX12_laysFits 99 = .ok (.invokestatic 155, 3) := by decide +kernel
theorem dX12_laysFits_102 : decode cX12_laysFits 102 = .ok (.iadd, 1) := by decide +kernel
theorem dX12_laysFits_103 : decode cX12_laysFits 103 = .ok (.istore_n 2, 1) := by decide +kernel
theorem dX12_laysFits_104 : decode cX12_laysFits 104 = .ok (.iinc 3 1, 3) := by decide +kernel
theorem dX12_laysFits_107 : decode cX12_laysFits 107 = .ok (.goto (-98), 3) := by decide +kernel
theorem dX12_laysFits_110 : decode cX12_laysFits 110 = .ok (.iload_n 2, 1) := by decide +kernel
theorem dX12_laysFits_111 : decode cX12_laysFits 111 = .ok (.ireturn, 1) := by decide +kernel
theorem dX12_lost_0 : decode cX12_lost 0 = .ok (.aload_n 0, 1) := by decide +kernel
theorem dX12_lost_1 : decode cX12_lost 1 = .ok (.iconst 0, 1) := by decide +kernel
theorem dX12_lost_2 : decode cX12_lost 2 = .ok (.putfield 111, 3) := by decide +kernel
theorem dX12_lost_5 : decode cX12_lost 5 = .ok (.iload_n 1, 1) := by decide +kernel
theorem dX12_lost_6 : decode cX12_lost 6 = .ok (.i2l, 1) := by decide +kernel
theorem dX12_lost_7 : decode cX12_lost 7 = .ok (.lconst 0, 1) := by decide +kernel
theorem dX12_lost_8 : decode cX12_lost 8 = .ok (.ldc2_w 378, 3) := by decide +kernel
theorem dX12_lost_11 : decode cX12_lost 11 = .ok (.invokestatic 129, 3) := by decide +kernel
theorem dX12_lost_14 : decode cX12_lost 14 = .ok (.ifCond .ne 5, 3) := by decide +kernel
theorem dX12_lost_17 : decode cX12_lost 17 = .ok (.iconst (-1), 1) := by decide +kernel
theorem dX12_lost_18 : decode cX12_lost 18 = .ok (.ireturn, 1) := by decide +kernel
theorem dX12_lost_19 : decode cX12_lost 19 = .ok (.aload_n 0, 1) := by decide +kernel
theorem dX12_lost_20 : decode cX12_lost 20 = .ok (.getfield 29, 3) := by decide +kernel
theorem dX12_lost_23 : decode cX12_lost 23 = .ok (.aload_n 0, 1) := by decide +kernel
theorem dX12_lost_24 : decode cX12_lost 24 = .ok (.getfield 32, 3) := by decide +kernel
theorem dX12_lost_27 : decode cX12_lost 27 = .ok (.invokestatic 374, 3) := by decide +kernel
theorem dX12_lost_30 : decode cX12_lost 30 = .ok (.aload_n 0, 1) := by decide +kernel
theorem dX12_lost_31 : decode cX12_lost 31 = .ok (.getfield 32, 3) := by decide +kernel
theorem dX12_lost_34 : decode cX12_lost 34 = .ok (.iconst 2, 1) := by decide +kernel
theorem dX12_lost_35 : decode cX12_lost 35 = .ok (.invokestatic 346, 3) := by decide +kernel
theorem dX12_lost_38 : decode cX12_lost 38 = .ok (.istore_n 2, 1) := by decide +kernel
theorem dX12_lost_39 : decode cX12_lost 39 = .ok (.iconst 1, 1) := by decide +kernel
theorem dX12_lost_40 : decode cX12_lost 40 = .ok (.istore_n 3, 1) := by decide +kernel
theorem dX12_lost_41 : decode cX12_lost 41 = .ok (.iload_n 3, 1) := by decide +kernel
theorem dX12_lost_42 : decode cX12_lost 42 = .ok (.iload_n 1, 1) := by decide +kernel
theorem dX12_lost_43 : decode cX12_lost 43 = .ok (.if_icmp .gt 74, 3) := by decide +kernel
theorem dX12_lost_46 : decode cX12_lost 46 = .ok (.aload_n 0, 1) := by decide +kernel
theorem dX12_lost_47 : decode cX12_lost 47 = .ok (.aload_n 0, 1) := by decide +kernel
theorem dX12_lost_48 : decode cX12_lost 48 = .ok (.getfield 32, 3) := by decide +kernel
theorem dX12_lost_51 : decode cX12_lost 51 = .ok (.invokevirtual 349, 3) := by decide +kernel
theorem dX12_lost_54 : decode cX12_lost 54 = .ok (.aload_n 0, 1) := by decide +kernel
theorem dX12_lost_55 : decode cX12_lost 55 = .ok (.getfield 32, 3) := by decide +kernel
theorem dX12_lost_58 : decode cX12_lost 58 = .ok (.iconst 2, 1) := by decide +kernel
theorem dX12_lost_59 : decode cX12_lost 59 = .ok (.invokestatic 346, 3) := by decide +kernel
theorem dX12_lost_62 : decode cX12_lost 62 = .ok (.iload_n 2, 1) := by decide +kernel
theorem dX12_lost_63 : decode cX12_lost 63 = .ok (.iconst (-1), 1) := by decide +kernel
theorem dX12_lost_64 : decode cX12_lost 64 = .ok (.ixor, 1) := by decide +kernel
theorem dX12_lost_65 : decode cX12_lost 65 = .ok (.iand, 1) := by decide +kernel
theorem dX12_lost_66 : decode cX12_lost 66 = .ok (.istore 4, 2) := by decide +kernel
theorem dX12_lost_68 : decode cX12_lost 68 = .ok (.iload 4, 2) := by decide +kernel
theorem dX12_lost_70 : decode cX12_lost 70 = .ok (.ifCond .eq 41, 3) := by decide +kernel
theorem dX12_lost_73 : decode cX12_lost 73 = .ok (.iload 4, 2) := by decide +kernel
theorem dX12_lost_75 : decode cX12_lost 75 = .ok (.invokestatic 386, 3) := by decide +kernel
theorem dX12_lost_78 : decode cX12_lost 78 = .ok (.istore 5, 2) := by decide +kernel
theorem dX12_lost_80 : decode cX12_lost 80 = .ok (.aload_n 0, 1) := by decide +kernel
theorem dX12_lost_81 : decode cX12_lost 81 = .ok (.iconst 0, 1) := by decide +kernel
theorem dX12_lost_82 : decode cX12_lost 82 = .ok (.putfield 119, 3) := by decide +kernel
theorem dX12_lost_85 : decode cX12_lost 85 = .ok (.aload_n 0, 1) := by decide +kernel
theorem dX12_lost_86 : decode cX12_lost 86 = .ok (.iload_n 3, 1) := by decide +kernel
theorem dX12_lost_87 : decode cX12_lost 87 = .ok (.i2l, 1) := by decide +kernel
theorem dX12_lost_88 : decode cX12_lost 88 = .ok (.invokevirtual 122, 3) := by decide +kernel
theorem dX12_lost_91 : decode cX12_lost 91 = .ok (.aload_n 0, 1) := by decide +kernel
theorem dX12_lost_92 : decode cX12_lost 92 = .ok (.aload_n 0, 1) := by decide +kernel
theorem dX12_lost_93 : decode cX12_lost 93 = .ok (.getfield 32, 3) := by decide +kernel
theorem dX12_lost_96 : decode cX12_lost 96 = .ok (.bipush 7, 2) := by decide +kernel
theorem dX12_lost_98 : decode cX12_lost 98 = .ok (.iload 5, 2) := by decide +kernel
theorem dX12_lost_100 : decode cX12_lost 100 = .ok (.imul, 1) := by decide +kernel
theorem dX12_lost_101 : decode cX12_lost 101 = .ok (.iconst 0, 1) := by decide +kernel
theorem dX12_lost_102 : decode cX12_lost 102 = .ok (.iadd, 1) := by decide +kernel
theorem dX12_lost_103 : decode cX12_lost 103 = .ok (.iaload, 1) := by decide +kernel
theorem dX12_lost_104 : decode cX12_lost 104 = .ok (.i2l, 1) := by decide +kernel
theorem dX12_lost_105 : decode cX12_lost 105 = .ok (.invokevirtual 122, 3) := by decide +kernel
theorem dX12_lost_108 : decode cX12_lost 108 = .ok (.iload 5, 2) := by decide +kernel
theorem dX12_lost_110 : decode cX12_lost 110 = .ok (.ireturn, 1) := by decide +kernel
theorem dX12_lost_111 : decode cX12_lost 111 = .ok (.iinc 3 1, 3) := by decide +kernel
theorem dX12_lost_114 : decode cX12_lost 114 = .ok (.goto (-73), 3) := by decide +kernel
theorem dX12_lost_117 : decode cX12_lost 117 = .ok (.bipush (-2), 2) := by decide +kernel
theorem dX12_lost_119 : decode cX12_lost 119 = .ok (.ireturn, 1) := by decide +kernel
theorem dX12_maps_0 : decode cX12_maps 0 = .ok (.aload_n 0, 1) := by decide +kernel
theorem dX12_maps_1 : decode cX12_maps 1 = .ok (.iconst 0, 1) := by decide +kernel
theorem dX12_maps_2 : decode cX12_maps 2 = .ok (.putfield 111, 3) := by decide +kernel
theorem dX12_maps_5 : decode cX12_maps 5 = .ok (.aload_n 0, 1) := by decide +kernel
theorem dX12_maps_6 : decode cX12_maps 6 = .ok (.invokevirtual 448, 3) := by decide +kernel
theorem dX12_maps_9 : decode cX12_maps 9 = .ok (.istore_n 1, 1) := by decide +kernel
theorem dX12_maps_10 : decode cX12_maps 10 = .ok (.aload_n 0, 1) := by decide +kernel
theorem dX12_maps_11 : decode cX12_maps 11 = .ok (.invokevirtual 416, 3) := by decide +kernel
theorem dX12_maps_14 : decode cX12_maps 14 = .ok (.istore_n 2, 1) := by decide +kernel
theorem dX12_maps_15 : decode cX12_maps 15 = .ok (.iconst (-1), 1) := by decide +kernel
theorem dX12_maps_16 : decode cX12_maps 16 = .ok (.istore_n 3, 1) := by decide +kernel
theorem dX12_maps_17 : decode cX12_maps 17 = .ok (.iload_n 1, 1) := by decide +kernel
theorem dX12_maps_18 : decode cX12_maps 18 = .ok (.ifCond .le 7, 3) := by decide +kernel
theorem dX12_maps_21 : decode cX12_maps 21 = .ok (.iload_n 2, 1) := by decide +kernel
theorem dX12_maps_22 : decode cX12_maps 22 = .ok (.goto 4, 3) := by decide +kernel
theorem dX12_maps_25 : decode cX12_maps 25 = .ok (.iconst 0, 1) := by decide +kernel
theorem dX12_maps_26 : decode cX12_maps 26 = .ok (.istore 4, 2) := by decide +kernel
theorem dX12_maps_28 : decode cX12_maps 28 = .ok (.iconst 0, 1) := by decide +kernel
theorem dX12_maps_29 : decode cX12_maps 29 = .ok (.istore 5, 2) := by decide +kernel
theorem dX12_maps_31 : decode cX12_maps 31 = .ok (.iconst 0, 1) := by decide +kernel
theorem dX12_maps_32 : decode cX12_maps 32 = .ok (.istore 6, 2) := by decide +kernel
theorem dX12_maps_34 : decode cX12_maps 34 = .ok (.iload 6, 2) := by decide +kernel
theorem dX12_maps_36 : decode cX12_maps 36 = .ok (.iload_n 2, 1) := by decide +kernel
theorem dX12_maps_37 : decode cX12_maps 37 = .ok (.if_icmp .gt 44, 3) := by decide +kernel
theorem dX12_maps_40 : decode cX12_maps 40 = .ok (.aload_n 0, 1) := by decide +kernel
theorem dX12_maps_41 : decode cX12_maps 41 = .ok (.getfield 98, 3) := by decide +kernel
theorem dX12_maps_44 : decode cX12_maps 44 = .ok (.iload 6, 2) := by decide +kernel
theorem dX12_maps_46 : decode cX12_maps 46 = .ok (.baload, 1) := by decide +kernel
theorem dX12_maps_47 : decode cX12_maps 47 = .ok (.ifCond .eq 28, 3) := by decide +kernel
theorem dX12_maps_50 : decode cX12_maps 50 = .ok (.iload_n 3, 1) := by decide +kernel
theorem dX12_maps_51 : decode cX12_maps 51 = .ok (.ifCond .ge 8, 3) := by decide +kernel
theorem dX12_maps_54 : decode cX12_maps 54 = .ok (.iload 6, 2) := by decide +kernel
theorem dX12_maps_56 : decode cX12_maps 56 = .ok (.goto 4, 3) := by decide +kernel
theorem dX12_maps_59 : decode cX12_maps 59 = .ok (.iload_n 3, 1) := by decide +kernel
theorem dX12_maps_60 : decode cX12_maps 60 = .ok (.istore_n 3, 1) := by decide +kernel
theorem dX12_maps_61 : decode cX12_maps 61 = .ok (.iload 4, 2) := by decide +kernel
theorem dX12_maps_63 : decode cX12_maps 63 = .ok (.iload 6, 2) := by decide +kernel
theorem dX12_maps_65 : decode cX12_maps 65 = .ok (.iand, 1) := by decide +kernel
theorem dX12_maps_66 : decode cX12_maps 66 = .ok (.istore 4, 2) := by decide +kernel
theorem dX12_maps_68 : decode cX12_maps 68 = .ok (.iload 5, 2) := by decide +kernel
theorem dX12_maps_70 : decode cX12_maps 70 = .ok (.iload 6, 2) := by decide +kernel
theorem dX12_maps_72 : decode cX12_maps 72 = .ok (.ior, 1) := by decide +kernel
theorem dX12_maps_73 : decode cX12_maps 73 = .ok (.istore 5, 2) := by decide +kernel
theorem dX12_maps_75 : decode cX12_maps 75 = .ok (.iinc 6 1, 3) := by decide +kernel
theorem dX12_maps_78 : decode cX12_maps 78 = .ok (.goto (-44), 3) := by decide +kernel
theorem dX12_maps_81 : decode cX12_maps 81 = .ok (.aload_n 0, 1) := by decide +kernel
theorem dX12_maps_82 : decode cX12_maps 82 = .ok (.iconst 0, 1) := by decide +kernel
theorem dX12_maps_83 : decode cX12_maps 83 = .ok (.putfield 119, 3) := by decide +kernel
theorem dX12_maps_86 : decode cX12_maps 86 = .ok (.aload_n 0, 1) := by decide +kernel
theorem dX12_maps_87 : decode cX12_maps 87 = .ok (.iload_n 3, 1) := by decide +kernel
theorem dX12_maps_88 : decode cX12_maps 88 = .ok (.i2l, 1) := by decide +kernel
theorem dX12_maps_89 : decode cX12_maps 89 = .ok (.invokevirtual 122, 3) := by decide +kernel
theorem dX12_maps_92 : decode cX12_maps 92 = .ok (.aload_n 0, 1) := by decide +kernel
theorem dX12_maps_93 : decode cX12_maps 93 = .ok (.iload 4, 2) := by decide +kernel
theorem dX12_maps_95 : decode cX12_maps 95 = .ok (.i2l, 1) := by decide +kernel
theorem dX12_maps_96 : decode cX12_maps 96 = .ok (.invokevirtual 122, 3) := by decide +kernel
theorem dX12_maps_99 : decode cX12_maps 99 = .ok (.aload_n 0, 1) := by decide +kernel
theorem dX12_maps_100 : decode cX12_maps 100 = .ok (.iload_n 1, 1) := by decide +kernel
theorem dX12_maps_101 : decode cX12_maps 101 = .ok (.ifCond .le 13, 3) := by decide +kernel
theorem dX12_maps_104 : decode cX12_maps 104 = .ok (.iload_n 2, 1) := by decide +kernel
theorem dX12_maps_105 : decode cX12_maps 105 = .ok (.iload 5, 2) := by decide +kernel
theorem dX12_maps_107 : decode cX12_maps 107 = .ok (.iconst (-1), 1) := by decide +kernel
theorem dX12_maps_108 : decode cX12_maps 108 = .ok (.ixor, 1) := by decide +kernel
theorem dX12_maps_109 : decode cX12_maps 109 = .ok (.iand, 1) := by decide +kernel
theorem dX12_maps_110 : decode cX12_maps 110 = .ok (.i2l, 1) := by decide +kernel
theorem dX12_maps_111 : decode cX12_maps 111 = .ok (.goto 4, 3) := by decide +kernel
theorem dX12_maps_114 : decode cX12_maps 114 = .ok (.lconst 0, 1) := by decide +kernel
theorem dX12_maps_115 : decode cX12_maps 115 = .ok (.invokevirtual 122, 3) := by decide +kernel
theorem dX12_maps_118 : decode cX12_maps 118 = .ok (.iload_n 1, 1) := by decide +kernel
theorem dX12_maps_119 : decode cX12_maps 119 = .ok (.ireturn, 1) := by decide +kernel
theorem dX12_marks_0 : decode cX12_marks 0 = .ok (.aload_n 0, 1) := by decide +kernel
theorem dX12_marks_1 : decode cX12_marks 1 = .ok (.iconst 0, 1) := by decide +kernel
theorem dX12_marks_2 : decode cX12_marks 2 = .ok (.putfield 111, 3) := by decide +kernel
theorem dX12_marks_5 : decode cX12_marks 5 = .ok (.iload_n 1, 1) := by decide +kernel
theorem dX12_marks_6 : decode cX12_marks 6 = .ok (.i2l, 1) := by decide +kernel
theorem dX12_marks_7 : decode cX12_marks 7 = .ok (.lconst 0, 1) := by decide +kernel
theorem dX12_marks_8 : decode cX12_marks 8 = .ok (.ldc2_w 327, 3) := by decide +kernel
theorem dX12_marks_11 : decode cX12_marks 11 = .ok (.invokestatic 129, 3) := by decide +kernel
theorem dX12_marks_14 : decode cX12_marks 14 = .ok (.ifCond .eq 27, 3) := by decide +kernel
theorem dX12_marks_17 : decode cX12_marks 17 = .ok (.iload_n 2, 1) := by decide +kernel
theorem dX12_marks_18 : decode cX12_marks 18 = .ok (.i2l, 1) := by decide +kernel
theorem dX12_marks_19 : decode cX12_marks 19 = .ok (.lconst 0, 1) := by decide +kernel
theorem dX12_marks_20 : decode cX12_marks 20 = .ok (.ldc2_w 329, 3) := by decide +kernel
theorem dX12_marks_23 : decode cX12_marks 23 = .ok (.invokestatic 129, 3) := by decide +kernel
theorem dX12_marks_26 : decode cX12_marks 26 = .ok (.ifCond .eq 15, 3) := by decide +kernel
theorem dX12_marks_29 : decode cX12_marks 29 = .ok (.iload_n 3, 1) := by decide +kernel
theorem dX12_marks_30 : decode cX12_marks 30 = .ok (.i2l, 1) := by decide +kernel
theorem dX12_marks_31 : decode cX12_marks 31 = .ok (.lconst 0, 1) := by decide +kernel
theorem dX12_marks_32 : decode cX12_marks 32 = .ok (.ldc2_w 459, 3) := by decide +kernel
theorem dX12_marks_35 : decode cX12_marks 35 = .ok (.invokestatic 129, 3) := by decide +kernel
theorem dX12_marks_38 : decode cX12_marks 38 = .ok (.ifCond .ne 5, 3) := by decide +kernel
theorem dX12_marks_41 : decode cX12_marks 41 = .ok (.iconst (-1), 1) := by decide +kernel
theorem dX12_marks_42 : decode cX12_marks 42 = .ok (.ireturn, 1) := by decide +kernel
theorem dX12_marks_43 : decode cX12_marks 43 = .ok (.aload_n 0, 1) := by decide +kernel
theorem dX12_marks_44 : decode cX12_marks 44 = .ok (.invokevirtual 409, 3) := by decide +kernel
theorem dX12_marks_47 : decode cX12_marks 47 = .ok (.iconst 0, 1) := by decide +kernel
theorem dX12_marks_48 : decode cX12_marks 48 = .ok (.istore 4, 2) := by decide +kernel
theorem dX12_marks_50 : decode cX12_marks 50 = .ok (.iconst (-1), 1) := by decide +kernel
theorem dX12_marks_51 : decode cX12_marks 51 = .ok (.istore 5, 2) := by decide +kernel
theorem dX12_marks_53 : decode cX12_marks 53 = .ok (.iconst (-1), 1) := by decide +kernel
theorem dX12_marks_54 : decode cX12_marks 54 = .ok (.istore 6, 2) := by decide +kernel
theorem dX12_marks_56 : decode cX12_marks 56 = .ok (.iconst 0, 1) := by decide +kernel
theorem dX12_marks_57 : decode cX12_marks 57 = .ok (.istore 7, 2) := by decide +kernel
theorem dX12_marks_59 : decode cX12_marks 59 = .ok (.iconst 0, 1) := by decide +kernel
theorem dX12_marks_60 : decode cX12_marks 60 = .ok (.istore 8, 2) := by decide +kernel
theorem dX12_marks_62 : decode cX12_marks 62 = .ok (.iload 8, 2) := by decide +kernel
theorem dX12_marks_64 : decode cX12_marks 64 = .ok (.aload_n 0, 1) := by decide +kernel
theorem dX12_marks_65 : decode cX12_marks 65 = .ok (.getfield 126, 3) := by decide +kernel
theorem dX12_marks_68 : decode cX12_marks 68 = .ok (.if_icmp .ge 98, 3) := by decide +kernel
theorem dX12_marks_71 : decode cX12_marks 71 = .ok (.iconst 0, 1) := by decide +kernel
theorem dX12_marks_72 : decode cX12_marks 72 = .ok (.istore 9, 2) := by decide +kernel
theorem dX12_marks_74 : decode cX12_marks 74 = .ok (.iload 9, 2) := by decide +kernel
theorem dX12_marks_76 : decode cX12_marks 76 = .ok (.bipush 9, 2) := by decide +kernel
theorem dX12_marks_78 : decode cX12_marks 78 = .ok (.if_icmp .gt 82, 3) := by decide +kernel
theorem dX12_marks_81 : decode cX12_marks 81 = .ok (.aload_n 0, 1) := by decide +kernel
theorem dX12_marks_82 : decode cX12_marks 82 = .ok (.iload 8, 2) := by decide +kernel
theorem dX12_marks_84 : decode cX12_marks 84 = .ok (.iload_n 1, 1) := by decide +kernel
theorem dX12_marks_85 : decode cX12_marks 85 = .ok (.iload_n 2, 1) := by decide +kernel
theorem dX12_marks_86 : decode cX12_marks 86 = .ok (.iload 9, 2) := by decide +kernel
theorem dX12_marks_88 : decode cX12_marks 88 = .ok (.invokevirtual 399, 3) := by decide +kernel
theorem dX12_marks_91 : decode cX12_marks 91 = .ok (.ifCond .lt 63, 3) := by decide +kernel
theorem dX12_marks_94 : decode cX12_marks 94 = .ok (.aload_n 0, 1) := by decide +kernel
theorem dX12_marks_95 : decode cX12_marks 95 = .ok (.getfield 83, 3) := by decide +kernel
theorem dX12_marks_98 : decode cX12_marks 98 = .ok (.iconst 4, 1) := by decide +kernel
theorem dX12_marks_99 : decode cX12_marks 99 = .ok (.iaload, 1) := by decide +kernel
theorem dX12_marks_100 : decode cX12_marks 100 = .ok (.iconst 1, 1) := by decide +kernel
theorem dX12_marks_101 : decode cX12_marks 101 = .ok (.if_icmp .ne 53, 3) := by decide +kernel
theorem dX12_marks_104 : decode cX12_marks 104 = .ok (.aload_n 0, 1) := by decide +kernel
theorem dX12_marks_105 : decode cX12_marks 105 = .ok (.getfield 83, 3) := by decide +kernel
theorem dX12_marks_108 : decode cX12_marks 108 = .ok (.iconst 3, 1) := by decide +kernel
theorem dX12_marks_109 : decode cX12_marks 109 = .ok (.iaload, 1) := by decide +kernel
theorem dX12_marks_110 : decode cX12_marks 110 = .ok (.iload_n 3, 1) := by decide +kernel
theorem dX12_marks_111 : decode cX12_marks 111 = .ok (.if_icmp .ne 43, 3) := by decide +kernel
theorem dX12_marks_114 : decode cX12_marks 114 = .ok (.iload 5, 2) := by decide +kernel
theorem dX12_marks_116 : decode cX12_marks 116 = .ok (.ifCond .ge 8, 3) := by decide +kernel
theorem dX12_marks_119 : decode cX12_marks 119 = .ok (.iload 9, 2) := by decide +kernel
theorem dX12_marks_121 : decode cX12_marks 121 = .ok (.goto 5, 3) := by decide +kernel
theorem dX12_marks_124 : decode cX12_marks 124 = .ok (.iload 6, 2) := by decide +kernel
theorem dX12_marks_126 : decode cX12_marks 126 = .ok (.istore 6, 2) := by decide +kernel
theorem dX12_marks_128 : decode cX12_marks 128 = .ok (.iload 5, 2) := by decide +kernel
theorem dX12_marks_130 : decode cX12_marks 130 = .ok (.ifCond .ge 8, 3) := by decide +kernel
theorem dX12_marks_133 : decode cX12_marks 133 = .ok (.iload 8, 2) := by decide +kernel
theorem dX12_marks_135 : decode cX12_marks 135 = .ok (.goto 5, 3) := by decide +kernel
theorem dX12_marks_138 : decode cX12_marks 138 = .ok (.iload 5, 2) := by decide +kernel
theorem dX12_marks_140 : decode cX12_marks 140 = .ok (.istore 5, 2) := by decide +kernel
theorem dX12_marks_142 : decode cX12_marks 142 = .ok (.iload 7, 2) := by decide +kernel
theorem dX12_marks_144 : decode cX12_marks 144 = .ok (.iconst 1, 1) := by decide +kernel
theorem dX12_marks_145 : decode cX12_marks 145 = .ok (.iload 8, 2) := by decide +kernel
theorem dX12_marks_147 : decode cX12_marks 147 = .ok (.ishl, 1) := by decide +kernel
theorem dX12_marks_148 : decode cX12_marks 148 = .ok (.ior, 1) := by decide +kernel
theorem dX12_marks_149 : decode cX12_marks 149 = .ok (.istore 7, 2) := by decide +kernel
theorem dX12_marks_151 : decode cX12_marks 151 = .ok (.iinc 4 1, 3) := by decide +kernel
theorem dX12_marks_154 : decode cX12_marks 154 = .ok (.iinc 9 1, 3) := by decide +kernel
theorem dX12_marks_157 : decode cX12_marks 157 = .ok (.goto (-83), 3) := by decide +kernel
theorem dX12_marks_160 : decode cX12_marks 160 = .ok (.iinc 8 1, 3) := by decide +kernel
theorem dX12_marks_163 : decode cX12_marks 163 = .ok (.goto (-101), 3) := by decide +kernel
theorem dX12_marks_166 : decode cX12_marks 166 = .ok (.aload_n 0, 1) := by decide +kernel
theorem dX12_marks_167 : decode cX12_marks 167 = .ok (.iconst 0, 1) := by decide +kernel
theorem dX12_marks_168 : decode cX12_marks 168 = .ok (.putfield 119, 3) := by decide +kernel
theorem dX12_marks_171 : decode cX12_marks 171 = .ok (.iload 4, 2) := by decide +kernel
theorem dX12_marks_173 : decode cX12_marks 173 = .ok (.ifCond .le 17, 3) := by decide +kernel
theorem dX12_marks_176 : decode cX12_marks 176 = .ok (.aload_n 0, 1) := by decide +kernel
theorem dX12_marks_177 : decode cX12_marks 177 = .ok (.iload 5, 2) := by decide +kernel
theorem dX12_marks_179 : decode cX12_marks 179 = .ok (.i2l, 1) := by decide +kernel
theorem dX12_marks_180 : decode cX12_marks 180 = .ok (.invokevirtual 122, 3) := by decide +kernel
theorem dX12_marks_183 : decode cX12_marks 183 = .ok (.aload_n 0, 1) := by decide +kernel
theorem dX12_marks_184 : decode cX12_marks 184 = .ok (.iload 6, 2) := by decide +kernel
theorem dX12_marks_186 : decode cX12_marks 186 = .ok (.i2l, 1) := by decide +kernel
theorem dX12_marks_187 : decode cX12_marks 187 = .ok (.invokevirtual 122, 3) := by decide +kernel
theorem dX12_marks_190 : decode cX12_marks 190 = .ok (.aload_n 0, 1) := by decide +kernel
theorem dX12_marks_191 : decode cX12_marks 191 = .ok (.iload 7, 2) := by decide +kernel
theorem dX12_marks_193 : decode cX12_marks 193 = .ok (.i2l, 1) := by decide +kernel
theorem dX12_marks_194 : decode cX12_marks 194 = .ok (.invokevirtual 122, 3) := by decide +kernel
theorem dX12_marks_197 : decode cX12_marks 197 = .ok (.iload 4, 2) := by decide +kernel
theorem dX12_marks_199 : decode cX12_marks 199 = .ok (.ireturn, 1) := by decide +kernel
theorem dX12_next_0 : decode cX12_next 0 = .ok (.aload_n 0, 1) := by decide +kernel
theorem dX12_next_1 : decode cX12_next 1 = .ok (.iconst 0, 1) := by decide +kernel
theorem dX12_next_2 : decode cX12_next 2 = .ok (.putfield 111, 3) := by decide +kernel
theorem dX12_next_5 : decode cX12_next 5 = .ok (.aload_n 0, 1) := by decide +kernel
theorem dX12_next_6 : decode cX12_next 6 = .ok (.getfield 126, 3) := by decide +kernel
theorem dX12_next_9 : decode cX12_next 9 = .ok (.ifCond .eq 15, 3) := by decide +kernel
theorem dX12_next_12 : decode cX12_next 12 = .ok (.iload_n 1, 1) := by decide +kernel
theorem dX12_next_13 : decode cX12_next 13 = .ok (.i2l, 1) := by decide +kernel
theorem dX12_next_14 : decode cX12_next 14 = .ok (.lconst 0, 1) := by decide +kernel
theorem dX12_next_15 : decode cX12_next 15 = .ok (.ldc2_w 443, 3) := by decide +kernel
theorem dX12_next_18 : decode cX12_next 18 = .ok (.invokestatic 129, 3) := by decide +kernel
theorem dX12_next_21 : decode cX12_next 21 = .ok (.ifCond .ne 5, 3) := by decide +kernel
theorem dX12_next_24 : decode cX12_next 24 = .ok (.iconst (-1), 1) := by decide +kernel
theorem dX12_next_25 : decode cX12_next 25 = .ok (.ireturn, 1) := by decide +kernel
theorem dX12_next_26 : decode cX12_next 26 = .ok (.aload_n 0, 1) := by decide +kernel
theorem dX12_next_27 : decode cX12_next 27 = .ok (.invokevirtual 448, 3) := by decide +kernel
theorem dX12_next_30 : decode cX12_next 30 = .ok (.ifCond .ne 6, 3) := by decide +kernel
theorem dX12_next_33 : decode cX12_next 33 = .ok (.bipush (-2), 2) := by decide +kernel
theorem dX12_next_35 : decode cX12_next 35 = .ok (.ireturn, 1) := by decide +kernel
theorem dX12_next_36 : decode cX12_next 36 = .ok (.aload_n 0, 1) := by decide +kernel
theorem dX12_next_37 : decode cX12_next 37 = .ok (.invokevirtual 416, 3) := by decide +kernel
theorem dX12_next_40 : decode cX12_next 40 = .ok (.istore_n 2, 1) := by decide +kernel
theorem dX12_next_41 : decode cX12_next 41 = .ok (.iconst (-1), 1) := by decide +kernel
theorem dX12_next_42 : decode cX12_next 42 = .ok (.istore_n 3, 1) := by decide +kernel
theorem dX12_next_43 : decode cX12_next 43 = .ok (.iconst 0, 1) := by decide +kernel
theorem dX12_next_44 : decode cX12_next 44 = .ok (.istore 4, 2) := by decide +kernel
theorem dX12_next_46 : decode cX12_next 46 = .ok (.iconst 0, 1) := by decide +kernel
theorem dX12_next_47 : decode cX12_next 47 = .ok (.istore 5, 2) := by decide +kernel
theorem dX12_next_49 : decode cX12_next 49 = .ok (.iload 5, 2) := by decide +kernel
theorem dX12_next_51 : decode cX12_next 51 = .ok (.aload_n 0, 1) := by decide +kernel
theorem dX12_next_52 : decode cX12_next 52 = .ok (.getfield 126, 3) := by decide +kernel
theorem dX12_next_55 : decode cX12_next 55 = .ok (.if_icmp .ge 129, 3) := by decide +kernel
theorem dX12_next_58 : decode cX12_next 58 = .ok (.iconst 0, 1) := by decide +kernel
theorem dX12_next_59 : decode cX12_next 59 = .ok (.istore 6, 2) := by decide +kernel
theorem dX12_next_61 : decode cX12_next 61 = .ok (.iload 6, 2) := by decide +kernel
theorem dX12_next_63 : decode cX12_next 63 = .ok (.bipush 12, 2) := by decide +kernel
theorem dX12_next_65 : decode cX12_next 65 = .ok (.if_icmp .gt 17, 3) := by decide +kernel
theorem dX12_next_68 : decode cX12_next 68 = .ok (.aload_n 0, 1) := by decide +kernel
theorem dX12_next_69 : decode cX12_next 69 = .ok (.getfield 102, 3) := by decide +kernel
theorem dX12_next_72 : decode cX12_next 72 = .ok (.iload 6, 2) := by decide +kernel
theorem dX12_next_74 : decode cX12_next 74 = .ok (.iconst 0, 1) := by decide +kernel
theorem dX12_next_75 : decode cX12_next 75 = .ok (.iastore, 1) := by decide +kernel
theorem dX12_next_76 : decode cX12_next 76 = .ok (.iinc 6 1, 3) := by decide +kernel
theorem dX12_next_79 : decode cX12_next 79 = .ok (.goto (-18), 3) := by decide +kernel
theorem dX12_next_82 : decode cX12_next 82 = .ok (.iconst 0, 1) := by decide +kernel
theorem dX12_next_83 : decode cX12_next 83 = .ok (.istore 6, 2) := by decide +kernel
theorem dX12_next_85 : decode cX12_next 85 = .ok (.iload 6, 2) := by decide +kernel
theorem dX12_next_87 : decode cX12_next 87 = .ok (.iload_n 2, 1) := by decide +kernel
theorem dX12_next_88 : decode cX12_next 88 = .ok (.if_icmp .gt 39, 3) := by decide +kernel
theorem dX12_next_91 : decode cX12_next 91 = .ok (.aload_n 0, 1) := by decide +kernel
theorem dX12_next_92 : decode cX12_next 92 = .ok (.getfield 98, 3) := by decide +kernel
theorem dX12_next_95 : decode cX12_next 95 = .ok (.iload 6, 2) := by decide +kernel
theorem dX12_next_97 : decode cX12_next 97 = .ok (.baload, 1) := by decide +kernel
theorem dX12_next_98 : decode cX12_next 98 = .ok (.ifCond .eq 23, 3) := by decide +kernel
theorem dX12_next_101 : decode cX12_next 101 = .ok (.aload_n 0, 1) := by decide +kernel
theorem dX12_next_102 : decode cX12_next 102 = .ok (.getfield 102, 3) := by decide +kernel
theorem dX12_next_105 : decode cX12_next 105 = .ok (.iconst 1, 1) := by decide +kernel
theorem dX12_next_106 : decode cX12_next 106 = .ok (.aload_n 0, 1) := by decide +kernel
theorem dX12_next_107 : decode cX12_next 107 = .ok (.iload 5, 2) := by decide +kernel
theorem dX12_next_109 : decode cX12_next 109 = .ok (.iload_n 1, 1) := by decide +kernel
theorem dX12_next_110 : decode cX12_next 110 = .ok (.iload 6, 2) := by decide +kernel
theorem dX12_next_112 : decode cX12_next 112 = .ok (.invokevirtual 445, 3) := by decide +kernel
theorem dX12_next_115 : decode cX12_next 115 = .ok (.iadd, 1) := by decide +kernel
theorem dX12_next_116 : decode cX12_next 116 = .ok (.dup2, 1) := by decide +kernel
theorem dX12_next_117 : decode cX12_next 117 = .ok (.iaload, 1) := by decide +kernel
theorem dX12_next_118 : decode cX12_next 118 = .ok (.iconst 1, 1) := by decide +kernel
theorem dX12_next_119 : decode cX12_next 119 = .ok (.iadd, 1) := by decide +kernel
theorem dX12_next_120 : decode cX12_next 120 = .ok (.iastore, 1) := by decide +kernel
theorem dX12_next_121 : decode cX12_next 121 = .ok (.iinc 6 1, 3) := by decide +kernel
theorem dX12_next_124 : decode cX12_next 124 = .ok (.goto (-39), 3) := by decide +kernel
theorem dX12_next_127 : decode cX12_next 127 = .ok (.iconst 0, 1) := by decide +kernel
theorem dX12_next_128 : decode cX12_next 128 = .ok (.istore 6, 2) := by decide +kernel
theorem dX12_next_130 : decode cX12_next 130 = .ok (.iconst 0, 1) := by decide +kernel
theorem dX12_next_131 : decode cX12_next 131 = .ok (.istore 7, 2) := by decide +kernel
theorem dX12_next_133 : decode cX12_next 133 = .ok (.iload 7, 2) := by decide +kernel
theorem dX12_next_135 : decode cX12_next 135 = .ok (.bipush 12, 2) := by decide +kernel
theorem dX12_next_137 : decode cX12_next 137 = .ok (.if_icmp .gt 23, 3) := by decide +kernel
theorem dX12_next_140 : decode cX12_next 140 = .ok (.iload 6, 2) := by decide +kernel
theorem dX12_next_142 : decode cX12_next 142 = .ok (.aload_n 0, 1) := by decide +kernel
theorem dX12_next_143 : decode cX12_next 143 = .ok (.getfield 102, 3) := by decide +kernel
theorem dX12_next_146 : decode cX12_next 146 = .ok (.iload 7, 2) := by decide +kernel
theorem dX12_next_148 : decode cX12_next 148 = .ok (.iaload, 1) := by decide +kernel
theorem dX12_next_149 : decode cX12_next 149 = .ok (.invokestatic 261, 3) := by decide +kernel
theorem dX12_next_152 : decode cX12_next 152 = .ok (.istore 6, 2) := by decide +kernel
theorem dX12_next_154 : decode cX12_next 154 = .ok (.iinc 7 1, 3) := by decide +kernel
theorem dX12_next_157 : decode cX12_next 157 = .ok (.goto (-24), 3) := by decide +kernel
theorem dX12_next_160 : decode cX12_next 160 = .ok (.iload_n 3, 1) := by decide +kernel
theorem dX12_next_161 : decode cX12_next 161 = .ok (.ifCond .lt 10, 3) := by decide +kernel
theorem dX12_next_164 : decode cX12_next 164 = .ok (.iload 6, 2) := by decide +kernel
theorem dX12_next_166 : decode cX12_next 166 = .ok (.iload 4, 2) := by decide +kernel
theorem dX12_next_168 : decode cX12_next 168 = .ok (.if_icmp .ge 10, 3) := by decide +kernel
theorem dX12_next_171 : decode cX12_next 171 = .ok (.iload 5, 2) := by decide +kernel
theorem dX12_next_173 : decode cX12_next 173 = .ok (.istore_n 3, 1) := by decide +kernel
theorem dX12_next_174 : decode cX12_next 174 = .ok (.iload 6, 2) := by decide +kernel
theorem dX12_next_176 : decode cX12_next 176 = .ok (.istore 4, 2) := by decide +kernel
theorem dX12_next_178 : decode cX12_next 178 = .ok (.iinc 5 1, 3) := by decide +kernel
theorem dX12_next_181 : decode cX12_next 181 = .ok (.goto (-132), 3) := by decide +kernel
theorem dX12_next_184 : decode cX12_next 184 = .ok (.aload_n 0, 1) := by decide +kernel
theorem dX12_next_185 : decode cX12_next 185 = .ok (.iconst 0, 1) := by decide +kernel
theorem dX12_next_186 : decode cX12_next 186 = .ok (.putfield 119, 3) := by decide +kernel
theorem dX12_next_189 : decode cX12_next 189 = .ok (.aload_n 0, 1) := by decide +kernel
theorem dX12_next_190 : decode cX12_next 190 = .ok (.iload 4, 2) := by decide +kernel
theorem dX12_next_192 : decode cX12_next 192 = .ok (.i2l, 1) := by decide +kernel
theorem dX12_next_193 : decode cX12_next 193 = .ok (.invokevirtual 122, 3) := by decide +kernel
theorem dX12_next_196 : decode cX12_next 196 = .ok (.iload_n 3, 1) := by decide +kernel
theorem dX12_next_197 : decode cX12_next 197 = .ok (.ireturn, 1) := by decide +kernel
theorem dX12_odds_0 : decode cX12_odds 0 = .ok (.aload_n 0, 1) := by decide +kernel
theorem dX12_odds_1 : decode cX12_odds 1 = .ok (.iconst 0, 1) := by decide +kernel
theorem dX12_odds_2 : decode cX12_odds 2 = .ok (.putfield 111, 3) := by decide +kernel
theorem dX12_odds_5 : decode cX12_odds 5 = .ok (.aload_n 0, 1) := by decide +kernel
theorem dX12_odds_6 : decode cX12_odds 6 = .ok (.iload_n 1, 1) := by decide +kernel
theorem dX12_odds_7 : decode cX12_odds 7 = .ok (.invokevirtual 309, 3) := by decide +kernel
theorem dX12_odds_10 : decode cX12_odds 10 = .ok (.ifCond .eq 27, 3) := by decide +kernel
theorem dX12_odds_13 : decode cX12_odds 13 = .ok (.iload_n 2, 1) := by decide +kernel
theorem dX12_odds_14 : decode cX12_odds 14 = .ok (.i2l, 1) := by decide +kernel
theorem dX12_odds_15 : decode cX12_odds 15 = .ok (.lconst 0, 1) := by decide +kernel
theorem dX12_odds_16 : decode cX12_odds 16 = .ok (.ldc2_w 451, 3) := by decide +kernel
theorem dX12_odds_19 : decode cX12_odds 19 = .ok (.invokestatic 129, 3) := by decide +kernel
theorem dX12_odds_22 : decode cX12_odds 22 = .ok (.ifCond .eq 15, 3) := by decide +kernel
theorem dX12_odds_25 : decode cX12_odds 25 = .ok (.iload_n 3, 1) := by decide +kernel
theorem dX12_odds_26 : decode cX12_odds 26 = .ok (.i2l, 1) := by decide +kernel
theorem dX12_odds_27 : decode cX12_odds 27 = .ok (.lconst 0, 1) := by decide +kernel
theorem dX12_odds_28 : decode cX12_odds 28 = .ok (.ldc2_w 453, 3) := by decide +kernel
theorem dX12_odds_31 : decode cX12_odds 31 = .ok (.invokestatic 129, 3) := by decide +kernel
theorem dX12_odds_34 : decode cX12_odds 34 = .ok (.ifCond .ne 5, 3) := by decide +kernel
theorem dX12_odds_37 : decode cX12_odds 37 = .ok (.iconst (-1), 1) := by decide +kernel
theorem dX12_odds_38 : decode cX12_odds 38 = .ok (.ireturn, 1) := by decide +kernel
theorem dX12_odds_39 : decode cX12_odds 39 = .ok (.aload_n 0, 1) := by decide +kernel
theorem dX12_odds_40 : decode cX12_odds 40 = .ok (.aload_n 0, 1) := by decide +kernel
theorem dX12_odds_41 : decode cX12_odds 41 = .ok (.getfield 29, 3) := by decide +kernel
theorem dX12_odds_44 : decode cX12_odds 44 = .ok (.bipush 43, 2) := by decide +kernel
theorem dX12_odds_46 : decode cX12_odds 46 = .ok (.iaload, 1) := by decide +kernel
theorem dX12_odds_47 : decode cX12_odds 47 = .ok (.bipush 9, 2) := by decide +kernel
theorem dX12_odds_49 : decode cX12_odds 49 = .ok (.iadd, 1) := by decide +kernel
theorem dX12_odds_50 : decode cX12_odds 50 = .ok (.bipush 10, 2) := by decide +kernel
theorem dX12_odds_52 : decode cX12_odds 52 = .ok (.idiv, 1) := by decide +kernel
theorem dX12_odds_53 : decode cX12_odds 53 = .ok (.putfield 255, 3) := by decide +kernel
theorem dX12_odds_56 : decode cX12_odds 56 = .ok (.iconst 0, 1) := by decide +kernel
theorem dX12_odds_57 : decode cX12_odds 57 = .ok (.istore 4, 2) := by decide +kernel
theorem dX12_odds_59 : decode cX12_odds 59 = .ok (.bipush 10, 2) := by decide +kernel
theorem dX12_odds_61 : decode cX12_odds 61 = .ok (.aload_n 0, 1) := by decide +kernel
theorem dX12_odds_62 : decode cX12_odds 62 = .ok (.getfield 255, 3) := by decide +kernel
theorem dX12_odds_65 : decode cX12_odds 65 = .ok (.iload 4, 2) := by decide +kernel
theorem dX12_odds_67 : decode cX12_odds 67 = .ok (.iadd, 1) := by decide +kernel
theorem dX12_odds_68 : decode cX12_odds 68 = .ok (.imul, 1) := by decide +kernel
theorem dX12_odds_69 : decode cX12_odds 69 = .ok (.aload_n 0, 1) := by decide +kernel
theorem dX12_odds_70 : decode cX12_odds 70 = .ok (.getfield 29, 3) := by decide +kernel
theorem dX12_odds_73 : decode cX12_odds 73 = .ok (.bipush 43, 2) := by decide +kernel
theorem dX12_odds_75 : decode cX12_odds 75 = .ok (.iaload, 1) := by decide +kernel
theorem dX12_odds_76 : decode cX12_odds 76 = .ok (.iload_n 2, 1) := by decide +kernel
theorem dX12_odds_77 : decode cX12_odds 77 = .ok (.iadd, 1) := by decide +kernel
theorem dX12_odds_78 : decode cX12_odds 78 = .ok (.if_icmp .ge 9, 3) := by decide +kernel
theorem dX12_odds_81 : decode cX12_odds 81 = .ok (.iinc 4 1, 3) := by decide +kernel
theorem dX12_odds_84 : decode cX12_odds 84 = .ok (.goto (-25), 3) := by decide +kernel
theorem dX12_odds_87 : decode cX12_odds 87 = .ok (.lconst 0, 1) := by decide +kernel
theorem dX12_odds_88 : decode cX12_odds 88 = .ok (.lstore 5, 2) := by decide +kernel
theorem dX12_odds_90 : decode cX12_odds 90 = .ok (.lconst 1, 1) := by decide +kernel
theorem dX12_odds_91 : decode cX12_odds 91 = .ok (.lstore 7, 2) := by decide +kernel
theorem dX12_odds_93 : decode cX12_odds 93 = .ok (.iconst 0, 1) := by decide +kernel
theorem dX12_odds_94 : decode cX12_odds 94 = .ok (.istore 9, 2) := by decide +kernel
theorem dX12_odds_96 : decode cX12_odds 96 = .ok (.iload 9, 2) := by decide +kernel
theorem dX12_odds_98 : decode cX12_odds 98 = .ok (.iload 4, 2) := by decide +kernel
theorem dX12_odds_100 : decode cX12_odds 100 = .ok (.if_icmp .ge 17, 3) := by decide +kernel
theorem dX12_odds_103 : decode cX12_odds 103 = .ok (.lload 7, 2) := by decide +kernel
theorem dX12_odds_105 : decode cX12_odds 105 = .ok (.ldc2_w 453, 3) := by decide +kernel
theorem dX12_odds_108 : decode cX12_odds 108 = .ok (.lmul, 1) := by decide +kernel
theorem dX12_odds_109 : decode cX12_odds 109 = .ok (.lstore 7, 2) := by decide +kernel
theorem dX12_odds_111 : decode cX12_odds 111 = .ok (.iinc 9 1, 3) := by decide +kernel
theorem dX12_odds_114 : decode cX12_odds 114 = .ok (.goto (-18), 3) := by decide +kernel
theorem dX12_odds_117 : decode cX12_odds 117 = .ok (.iconst 0, 1) := by decide +kernel
theorem dX12_odds_118 : decode cX12_odds 118 = .ok (.istore 9, 2) := by decide +kernel
theorem dX12_odds_120 : decode cX12_odds 120 = .ok (.iload 9, 2) := by decide +kernel
theorem dX12_odds_122 : decode cX12_odds 122 = .ok (.iconst 1, 1) := by decide +kernel
theorem dX12_odds_123 : decode cX12_odds 123 = .ok (.iload 4, 2) := by decide +kernel
theorem dX12_odds_125 : decode cX12_odds 125 = .ok (.ishl, 1) := by decide +kernel
theorem dX12_odds_126 : decode cX12_odds 126 = .ok (.if_icmp .ge 86, 3) := by decide +kernel
theorem dX12_odds_129 : decode cX12_odds 129 = .ok (.aload_n 0, 1) := by decide +kernel
theorem dX12_odds_130 : decode cX12_odds 130 = .ok (.iload 9, 2) := by decide +kernel
theorem dX12_odds_132 : decode cX12_odds 132 = .ok (.putfield 258, 3) := by decide +kernel
theorem dX12_odds_135 : decode cX12_odds 135 = .ok (.aload_n 0, 1) := by decide +kernel
theorem dX12_odds_136 : decode cX12_odds 136 = .ok (.iload_n 2, 1) := by decide +kernel
theorem dX12_odds_137 : decode cX12_odds 137 = .ok (.invokevirtual 380, 3) := by decide +kernel
theorem dX12_odds_140 : decode cX12_odds 140 = .ok (.aload_n 0, 1) := by decide +kernel
theorem dX12_odds_141 : decode cX12_odds 141 = .ok (.getfield 32, 3) := by decide +kernel
theorem dX12_odds_144 : decode cX12_odds 144 = .ok (.bipush 7, 2) := by decide +kernel
theorem dX12_odds_146 : decode cX12_odds 146 = .ok (.iload_n 1, 1) := by decide +kernel
theorem dX12_odds_147 : decode cX12_odds 147 = .ok (.imul, 1) := by decide +kernel
theorem dX12_odds_148 : decode cX12_odds 148 = .ok (.iconst 4, 1) := by decide +kernel
theorem dX12_odds_149 : decode cX12_odds 149 = .ok (.iadd, 1) := by decide +kernel
theorem dX12_odds_150 : decode cX12_odds 150 = .ok (.iaload, 1) := by decide +kernel
theorem dX12_odds_151 : decode cX12_odds 151 = .ok (.iconst 1, 1) := by decide +kernel
theorem dX12_odds_152 : decode cX12_odds 152 = .ok (.if_icmp .ne 54, 3) := by decide +kernel
theorem dX12_odds_155 : decode cX12_odds 155 = .ok (.lconst 1, 1) := by decide +kernel
theorem dX12_odds_156 : decode cX12_odds 156 = .ok (.lstore 10, 2) := by decide +kernel
theorem dX12_odds_158 : decode cX12_odds 158 = .ok (.iconst 0, 1) := by decide +kernel
theorem dX12_odds_159 : decode cX12_odds 159 = .ok (.istore 12, 2) := by decide +kernel
theorem dX12_odds_161 : decode cX12_odds 161 = .ok (.iload 12, 2) := by decide +kernel
theorem dX12_odds_163 : decode cX12_odds 163 = .ok (.iload 4, 2) := by decide +kernel
theorem dX12_odds_165 : decode cX12_odds 165 = .ok (.if_icmp .ge 34, 3) := by decide +kernel
theorem dX12_odds_168 : decode cX12_odds 168 = .ok (.lload 10, 2) := by decide +kernel
theorem dX12_odds_170 : decode cX12_odds 170 = .ok (.iload 9, 2) := by decide +kernel
theorem dX12_odds_172 : decode cX12_odds 172 = .ok (.iload 12, 2) := by decide +kernel
theorem dX12_odds_174 : decode cX12_odds 174 = .ok (.invokestatic 264, 3) := by decide +kernel
theorem dX12_odds_177 : decode cX12_odds 177 = .ok (.ifCond .eq 8, 3) := by decide +kernel
theorem dX12_odds_180 : decode cX12_odds 180 = .ok (.iload_n 3, 1) := by decide +kernel
theorem dX12_odds_181 : decode cX12_odds 181 = .ok (.i2l, 1) := by decide +kernel
theorem dX12_odds_182 : decode cX12_odds 182 = .ok (.goto 8, 3) := by decide +kernel
theorem dX12_odds_185 : decode cX12_odds 185 = .ok (.bipush 10, 2) := by decide +kernel
theorem dX12_odds_187 : decode cX12_odds 187 = .ok (.iload_n 3, 1) := by decide +kernel
theorem dX12_odds_188 : decode cX12_odds 188 = .ok (.isub, 1) := by decide +kernel
theorem dX12_odds_189 : decode cX12_odds 189 = .ok (.i2l, 1) := by decide +kernel
theorem dX12_odds_190 : decode cX12_odds 190 = .ok (.lmul, 1) := by decide +kernel
theorem dX12_odds_191 : decode cX12_odds 191 = .ok (.lstore 10, 2) := by decide +kernel
theorem dX12_odds_193 : decode cX12_odds 193 = .ok (.iinc 12 1, 3) := by decide +kernel
theorem dX12_odds_196 : decode cX12_odds 196 = .ok (.goto (-35), 3) := by decide +kernel
theorem dX12_odds_199 : decode cX12_odds 199 = .ok (.lload 5, 2) := by decide +kernel
theorem dX12_odds_201 : decode cX12_odds 201 = .ok (.lload 10, 2) := by decide +kernel
theorem dX12_odds_203 : decode cX12_odds 203 = .ok (.ladd, 1) := by decide +kernel
theorem dX12_odds_204 : decode cX12_odds 204 = .ok (.lstore 5, 2) := by decide +kernel
theorem dX12_odds_206 : decode cX12_odds 206 = .ok (.iinc 9 1, 3) := by decide +kernel
theorem dX12_odds_209 : decode cX12_odds 209 = .ok (.goto (-89), 3) := by decide +kernel
theorem dX12_odds_212 : decode cX12_odds 212 = .ok (.aload_n 0, 1) := by decide +kernel
theorem dX12_odds_213 : decode cX12_odds 213 = .ok (.iconst 0, 1) := by decide +kernel
theorem dX12_odds_214 : decode cX12_odds 214 = .ok (.putfield 258, 3) := by decide +kernel
theorem dX12_odds_217 : decode cX12_odds 217 = .ok (.aload_n 0, 1) := by decide +kernel
theorem dX12_odds_218 : decode cX12_odds 218 = .ok (.iconst 0, 1) := by decide +kernel
theorem dX12_odds_219 : decode cX12_odds 219 = .ok (.putfield 119, 3) := by decide +kernel
theorem dX12_odds_222 : decode cX12_odds 222 = .ok (.aload_n 0, 1) := by decide +kernel
theorem dX12_odds_223 : decode cX12_odds 223 = .ok (.lload 5, 2) := by decide +kernel
theorem dX12_odds_225 : decode cX12_odds 225 = .ok (.lload 7, 2) := by decide +kernel
theorem dX12_odds_227 : decode cX12_odds 227 = .ok (.invokevirtual 455, 3) := by decide +kernel
theorem dX12_odds_230 : decode cX12_odds 230 = .ok (.iconst 0, 1) := by decide +kernel
theorem dX12_odds_231 : decode cX12_odds 231 = .ok (.ireturn, 1) := by decide +kernel
theorem dX12_of_0 : decode cX12_of 0 = .ok (.aload_n 0, 1) := by decide +kernel
theorem dX12_of_1 : decode cX12_of 1 = .ok (.iconst 0, 1) := by decide +kernel
theorem dX12_of_2 : decode cX12_of 2 = .ok (.putfield 111, 3) := by decide +kernel
theorem dX12_of_5 : decode cX12_of 5 = .ok (.aload_n 0, 1) := by decide +kernel
theorem dX12_of_6 : decode cX12_of 6 = .ok (.iload_n 1, 1) := by decide +kernel
theorem dX12_of_7 : decode cX12_of 7 = .ok (.invokevirtual 309, 3) := by decide +kernel
theorem dX12_of_10 : decode cX12_of 10 = .ok (.ifCond .eq 15, 3) := by decide +kernel
theorem dX12_of_13 : decode cX12_of 13 = .ok (.iload_n 2, 1) := by decide +kernel
theorem dX12_of_14 : decode cX12_of 14 = .ok (.i2l, 1) := by decide +kernel
theorem dX12_of_15 : decode cX12_of 15 = .ok (.lconst 0, 1) := by decide +kernel
theorem dX12_of_16 : decode cX12_of 16 = .ok (.ldc2_w 312, 3) := by decide +kernel
theorem dX12_of_19 : decode cX12_of 19 = .ok (.invokestatic 129, 3) := by decide +kernel
theorem dX12_of_22 : decode cX12_of 22 = .ok (.ifCond .ne 8, 3) := by decide +kernel
theorem dX12_of_25 : decode cX12_of 25 = .ok (.aload_n 0, 1) := by decide +kernel
theorem dX12_of_26 : decode cX12_of 26 = .ok (.invokevirtual 306, 3) := by decide +kernel
theorem dX12_of_29 : decode cX12_of 29 = .ok (.ireturn, 1) := by decide +kernel
theorem dX12_of_30 : decode cX12_of 30 = .ok (.aload_n 0, 1) := by decide +kernel
theorem dX12_of_31 : decode cX12_of 31 = .ok (.getfield 29, 3) := by decide +kernel
theorem dX12_of_34 : decode cX12_of 34 = .ok (.bipush 7, 2) := by decide +kernel
theorem dX12_of_36 : decode cX12_of 36 = .ok (.iload_n 1, 1) := by decide +kernel
theorem dX12_of_37 : decode cX12_of 37 = .ok (.imul, 1) := by decide +kernel
theorem dX12_of_38 : decode cX12_of 38 = .ok (.iload_n 2, 1) := by decide +kernel
theorem dX12_of_39 : decode cX12_of 39 = .ok (.iadd, 1) := by decide +kernel
theorem dX12_of_40 : decode cX12_of 40 = .ok (.iaload, 1) := by decide +kernel
theorem dX12_of_41 : decode cX12_of 41 = .ok (.istore_n 3, 1) := by decide +kernel
theorem dX12_of_42 : decode cX12_of 42 = .ok (.iload_n 2, 1) := by decide +kernel
theorem dX12_of_43 : decode cX12_of 43 = .ok (.iconst 5, 1) := by decide +kernel
theorem dX12_of_44 : decode cX12_of 44 = .ok (.if_icmp .ne 37, 3) := by decide +kernel
theorem dX12_of_47 : decode cX12_of 47 = .ok (.aload_n 0, 1) := by decide +kernel
theorem dX12_of_48 : decode cX12_of 48 = .ok (.getfield 29, 3) := by decide +kernel
theorem dX12_of_51 : decode cX12_of 51 = .ok (.bipush 7, 2) := by decide +kernel
theorem dX12_of_53 : decode cX12_of 53 = .ok (.iload_n 1, 1) := by decide +kernel
theorem dX12_of_54 : decode cX12_of 54 = .ok (.imul, 1) := by decide +kernel
theorem dX12_of_55 : decode cX12_of 55 = .ok (.iconst 4, 1) := by decide +kernel
theorem dX12_of_56 : decode cX12_of 56 = .ok (.iadd, 1) := by decide +kernel
theorem dX12_of_57 : decode cX12_of 57 = .ok (.iaload, 1) := by decide +kernel
theorem dX12_of_58 : decode cX12_of 58 = .ok (.ifCond .ne 19, 3) := by decide +kernel
theorem dX12_of_61 : decode cX12_of 61 = .ok (.iconst 0, 1) := by decide +kernel
theorem dX12_of_62 : decode cX12_of 62 = .ok (.iload_n 3, 1) := by decide +kernel
theorem dX12_of_63 : decode cX12_of 63 = .ok (.aload_n 0, 1) := by decide +kernel
theorem dX12_of_64 : decode cX12_of 64 = .ok (.getfield 29, 3) := by decide +kernel
theorem dX12_of_67 : decode cX12_of 67 = .ok (.bipush 43, 2) := by decide +kernel
theorem dX12_of_69 : decode cX12_of 69 = .ok (.iaload, 1) := by decide +kernel
theorem dX12_of_70 : decode cX12_of 70 = .ok (.isub, 1) := by decide +kernel
theorem dX12_of_71 : decode cX12_of 71 = .ok (.invokestatic 261, 3) := by decide +kernel
theorem dX12_of_74 : decode cX12_of 74 = .ok (.goto 8, 3) := by decide +kernel
theorem dX12_of_77 : decode cX12_of 77 = .ok (.iconst 0, 1) := by decide +kernel
theorem dX12_of_78 : decode cX12_of 78 = .ok (.goto 4, 3) := by decide +kernel
theorem dX12_of_81 : decode cX12_of 81 = .ok (.iload_n 3, 1) := by decide +kernel
theorem dX12_of_82 : decode cX12_of 82 = .ok (.ireturn, 1) := by decide +kernel
theorem dX12_order_0 : decode cX12_order 0 = .ok (.aload_n 0, 1) := by decide +kernel
theorem dX12_order_1 : decode cX12_order 1 = .ok (.iconst 0, 1) := by decide +kernel
theorem dX12_order_2 : decode cX12_order 2 = .ok (.putfield 111, 3) := by decide +kernel
theorem dX12_order_5 : decode cX12_order 5 = .ok (.aload_n 0, 1) := by decide +kernel
theorem dX12_order_6 : decode cX12_order 6 = .ok (.iload_n 1, 1) := by decide +kernel
theorem dX12_order_7 : decode cX12_order 7 = .ok (.invokevirtual 309, 3) := by decide +kernel
theorem dX12_order_10 : decode cX12_order 10 = .ok (.ifCond .eq 44, 3) := by decide +kernel
theorem dX12_order_13 : decode cX12_order 13 = .ok (.aload_n 0, 1) := by decide +kernel
theorem dX12_order_14 : decode cX12_order 14 = .ok (.iload_n 2, 1) := by decide +kernel
theorem dX12_order_15 : decode cX12_order 15 = .ok (.invokevirtual 309, 3) := by decide +kernel
theorem dX12_order_18 : decode cX12_order 18 = .ok (.ifCond .eq 36, 3) := by decide +kernel
theorem dX12_order_21 : decode cX12_order 21 = .ok (.iload_n 1, 1) := by decide +kernel
theorem dX12_order_22 : decode cX12_order 22 = .ok (.iload_n 2, 1) := by decide +kernel
theorem dX12_order_23 : decode cX12_order 23 = .ok (.if_icmp .eq 31, 3) := by decide +kernel
theorem dX12_order_26 : decode cX12_order 26 = .ok (.aload_n 0, 1) := by decide +kernel
theorem dX12_order_27 : decode cX12_order 27 = .ok (.getfield 29, 3) := by decide +kernel
theorem dX12_order_30 : decode cX12_order 30 = .ok (.bipush 7, 2) := by decide +kernel
theorem dX12_order_32 : decode cX12_order 32 = .ok (.iload_n 1, 1) := by decide +kernel
theorem dX12_order_33 : decode cX12_order 33 = .ok (.imul, 1) := by decide +kernel
theorem dX12_order_34 : decode cX12_order 34 = .ok (.iconst 4, 1) := by decide +kernel
theorem dX12_order_35 : decode cX12_order 35 = .ok (.iadd, 1) := by decide +kernel
theorem dX12_order_36 : decode cX12_order 36 = .ok (.iaload, 1) := by decide +kernel
theorem dX12_order_37 : decode cX12_order 37 = .ok (.ifCond .ne 17, 3) := by decide +kernel
theorem dX12_order_40 : decode cX12_order 40 = .ok (.aload_n 0, 1) := by decide +kernel
theorem dX12_order_41 : decode cX12_order 41 = .ok (.getfield 29, 3) := by decide +kernel
theorem dX12_order_44 : decode cX12_order 44 = .ok (.bipush 7, 2) := by decide +kernel
theorem dX12_order_46 : decode cX12_order 46 = .ok (.iload_n 2, 1) := by decide +kernel
theorem dX12_order_47 : decode cX12_order 47 = .ok (.imul, 1) := by decide +kernel
theorem dX12_order_48 : decode cX12_order 48 = .ok (.iconst 4, 1) := by decide +kernel
theorem dX12_order_49 : decode cX12_order 49 = .ok (.iadd, 1) := by decide +kernel
theorem dX12_order_50 : decode cX12_order 50 = .ok (.iaload, 1) := by decide +kernel
theorem dX12_order_51 : decode cX12_order 51 = .ok (.ifCond .eq 5, 3) := by decide +kernel
theorem dX12_order_54 : decode cX12_order 54 = .ok (.iconst (-1), 1) := by decide +kernel
theorem dX12_order_55 : decode cX12_order 55 = .ok (.ireturn, 1) := by decide +kernel
theorem dX12_order_56 : decode cX12_order 56 = .ok (.aload_n 0, 1) := by decide +kernel
theorem dX12_order_57 : decode cX12_order 57 = .ok (.getfield 29, 3) := by decide +kernel
theorem dX12_order_60 : decode cX12_order 60 = .ok (.bipush 7, 2) := by decide +kernel
theorem dX12_order_62 : decode cX12_order 62 = .ok (.iload_n 1, 1) := by decide +kernel
theorem dX12_order_63 : decode cX12_order 63 = .ok (.imul, 1) := by decide +kernel
theorem dX12_order_64 : decode cX12_order 64 = .ok (.iconst 5, 1) := by decide +kernel
theorem dX12_order_65 : decode cX12_order 65 = .ok (.iadd, 1) := by decide +kernel
theorem dX12_order_66 : decode cX12_order 66 = .ok (.iaload, 1) := by decide +kernel
theorem dX12_order_67 : decode cX12_order 67 = .ok (.istore_n 3, 1) := by decide +kernel
theorem dX12_order_68 : decode cX12_order 68 = .ok (.aload_n 0, 1) := by decide +kernel
theorem dX12_order_69 : decode cX12_order 69 = .ok (.getfield 29, 3) := by decide +kernel
theorem dX12_order_72 : decode cX12_order 72 = .ok (.bipush 7, 2) := by decide +kernel
theorem dX12_order_74 : decode cX12_order 74 = .ok (.iload_n 2, 1) := by decide +kernel
theorem dX12_order_75 : decode cX12_order 75 = .ok (.imul, 1) := by decide +kernel
theorem dX12_order_76 : decode cX12_order 76 = .ok (.iconst 5, 1) := by decide +kernel
theorem dX12_order_77 : decode cX12_order 77 = .ok (.iadd, 1) := by decide +kernel
theorem dX12_order_78 : decode cX12_order 78 = .ok (.iaload, 1) := by decide +kernel
theorem dX12_order_79 : decode cX12_order 79 = .ok (.istore 4, 2) := by decide +kernel
theorem dX12_order_81 : decode cX12_order 81 = .ok (.bipush (-2), 2) := by decide +kernel
theorem dX12_order_83 : decode cX12_order 83 = .ok (.istore 5, 2) := by decide +kernel
theorem dX12_order_85 : decode cX12_order 85 = .ok (.iconst 0, 1) := by decide +kernel
theorem dX12_order_86 : decode cX12_order 86 = .ok (.istore 6, 2) := by decide +kernel
theorem dX12_order_88 : decode cX12_order 88 = .ok (.iconst 0, 1) := by decide +kernel
theorem dX12_order_89 : decode cX12_order 89 = .ok (.istore 7, 2) := by decide +kernel
theorem dX12_order_91 : decode cX12_order 91 = .ok (.iconst 0, 1) := by decide +kernel
theorem dX12_order_92 : decode cX12_order 92 = .ok (.istore 8, 2) := by decide +kernel
theorem dX12_order_94 : decode cX12_order 94 = .ok (.iload 8, 2) := by decide +kernel
theorem dX12_order_96 : decode cX12_order 96 = .ok (.bipush 18, 2) := by decide +kernel
theorem dX12_order_98 : decode cX12_order 98 = .ok (.if_icmp .gt 124, 3) := by decide +kernel
theorem dX12_order_101 : decode cX12_order 101 = .ok (.iload 5, 2) := by decide +kernel
theorem dX12_order_103 : decode cX12_order 103 = .ok (.ifCond .ge 119, 3) := by decide +kernel
theorem dX12_order_106 : decode cX12_order 106 = .ok (.iconst 0, 1) := by decide +kernel
theorem dX12_order_107 : decode cX12_order 107 = .ok (.iload 8, 2) := by decide +kernel
theorem dX12_order_109 : decode cX12_order 109 = .ok (.bipush 9, 2) := by decide +kernel
theorem dX12_order_111 : decode cX12_order 111 = .ok (.isub, 1) := by decide +kernel
theorem dX12_order_112 : decode cX12_order 112 = .ok (.invokestatic 261, 3) := by decide +kernel
theorem dX12_order_115 : decode cX12_order 115 = .ok (.istore 9, 2) := by decide +kernel
theorem dX12_order_117 : decode cX12_order 117 = .ok (.iload 9, 2) := by decide +kernel
theorem dX12_order_119 : decode cX12_order 119 = .ok (.bipush 9, 2) := by decide +kernel
theorem dX12_order_121 : decode cX12_order 121 = .ok (.iload 8, 2) := by decide +kernel
theorem dX12_order_123 : decode cX12_order 123 = .ok (.invokestatic 146, 3) := by decide +kernel
theorem dX12_order_126 : decode cX12_order 126 = .ok (.if_icmp .gt 90, 3) := by decide +kernel
theorem dX12_order_129 : decode cX12_order 129 = .ok (.aload_n 0, 1) := by decide +kernel
theorem dX12_order_130 : decode cX12_order 130 = .ok (.getfield 29, 3) := by decide +kernel
theorem dX12_order_133 : decode cX12_order 133 = .ok (.bipush 7, 2) := by decide +kernel
theorem dX12_order_135 : decode cX12_order 135 = .ok (.iload_n 1, 1) := by decide +kernel
theorem dX12_order_136 : decode cX12_order 136 = .ok (.imul, 1) := by decide +kernel
theorem dX12_order_137 : decode cX12_order 137 = .ok (.iconst 5, 1) := by decide +kernel
theorem dX12_order_138 : decode cX12_order 138 = .ok (.iadd, 1) := by decide +kernel
theorem dX12_order_139 : decode cX12_order 139 = .ok (.aload_n 0, 1) := by decide +kernel
theorem dX12_order_140 : decode cX12_order 140 = .ok (.getfield 29, 3) := by decide +kernel
theorem dX12_order_143 : decode cX12_order 143 = .ok (.bipush 43, 2) := by decide +kernel
theorem dX12_order_145 : decode cX12_order 145 = .ok (.iaload, 1) := by decide +kernel
theorem dX12_order_146 : decode cX12_order 146 = .ok (.iload 9, 2) := by decide +kernel
theorem dX12_order_148 : decode cX12_order 148 = .ok (.iadd, 1) := by decide +kernel
theorem dX12_order_149 : decode cX12_order 149 = .ok (.iastore, 1) := by decide +kernel
theorem dX12_order_150 : decode cX12_order 150 = .ok (.aload_n 0, 1) := by decide +kernel
theorem dX12_order_151 : decode cX12_order 151 = .ok (.getfield 29, 3) := by decide +kernel
theorem dX12_order_154 : decode cX12_order 154 = .ok (.bipush 7, 2) := by decide +kernel
theorem dX12_order_156 : decode cX12_order 156 = .ok (.iload_n 2, 1) := by decide +kernel
theorem dX12_order_157 : decode cX12_order 157 = .ok (.imul, 1) := by decide +kernel
theorem dX12_order_158 : decode cX12_order 158 = .ok (.iconst 5, 1) := by decide +kernel
theorem dX12_order_159 : decode cX12_order 159 = .ok (.iadd, 1) := by decide +kernel
theorem dX12_order_160 : decode cX12_order 160 = .ok (.aload_n 0, 1) := by decide +kernel
theorem dX12_order_161 : decode cX12_order 161 = .ok (.getfield 29, 3) := by decide +kernel
theorem dX12_order_164 : decode cX12_order 164 = .ok (.bipush 43, 2) := by decide +kernel
theorem dX12_order_166 : decode cX12_order 166 = .ok (.iaload, 1) := by decide +kernel
theorem dX12_order_167 : decode cX12_order 167 = .ok (.iload 8, 2) := by decide +kernel
theorem dX12_order_169 : decode cX12_order 169 = .ok (.iadd, 1) := by decide +kernel
theorem dX12_order_170 : decode cX12_order 170 = .ok (.iload 9, 2) := by decide +kernel
theorem dX12_order_172 : decode cX12_order 172 = .ok (.isub, 1) := by decide +kernel
theorem dX12_order_173 : decode cX12_order 173 = .ok (.iastore, 1) := by decide +kernel
theorem dX12_order_174 : decode cX12_order 174 = .ok (.aload_n 0, 1) := by decide +kernel
theorem dX12_order_175 : decode cX12_order 175 = .ok (.iconst 1, 1) := by decide +kernel
theorem dX12_order_176 : decode cX12_order 176 = .ok (.iload_n 1, 1) := by decide +kernel
theorem dX12_order_177 : decode cX12_order 177 = .ok (.ishl, 1) := by decide +kernel
theorem dX12_order_178 : decode cX12_order 178 = .ok (.iconst 1, 1) := by decide +kernel
theorem dX12_order_179 : decode cX12_order 179 = .ok (.iload_n 2, 1) := by decide +kernel
theorem dX12_order_180 : decode cX12_order 180 = .ok (.ishl, 1) := by decide +kernel
theorem dX12_order_181 : decode cX12_order 181 = .ok (.ior, 1) := by decide +kernel
theorem dX12_order_182 : decode cX12_order 182 = .ok (.iconst 0, 1) := by decide +kernel
theorem dX12_order_183 : decode cX12_order 183 = .ok (.invokevirtual 419, 3) := by decide +kernel
theorem dX12_order_186 : decode cX12_order 186 = .ok (.ifCond .lt 24, 3) := by decide +kernel
theorem dX12_order_189 : decode cX12_order 189 = .ok (.iload 7, 2) := by decide +kernel
theorem dX12_order_191 : decode cX12_order 191 = .ok (.ifCond .ne 8, 3) := by decide +kernel
theorem dX12_order_194 : decode cX12_order 194 = .ok (.iload 9, 2) := by decide +kernel
theorem dX12_order_196 : decode cX12_order 196 = .ok (.goto 5, 3) := by decide +kernel
theorem dX12_order_199 : decode cX12_order 199 = .ok (.iload 6, 2) := by decide +kernel
theorem dX12_order_201 : decode cX12_order 201 = .ok (.istore 6, 2) := by decide +kernel
theorem dX12_order_203 : decode cX12_order 203 = .ok (.iload 8, 2) := by decide +kernel
theorem dX12_order_205 : decode cX12_order 205 = .ok (.istore 5, 2) := by decide +kernel
theorem dX12_order_207 : decode cX12_order 207 = .ok (.iinc 7 1, 3) := by decide +kernel
theorem dX12_order_210 : decode cX12_order 210 = .ok (.iinc 9 1, 3) := by decide +kernel
theorem dX12_order_213 : decode cX12_order 213 = .ok (.goto (-96), 3) := by decide +kernel
theorem dX12_order_216 : decode cX12_order 216 = .ok (.iinc 8 1, 3) := by decide +kernel
theorem dX12_order_219 : decode cX12_order 219 = .ok (.goto (-125), 3) := by decide +kernel
theorem dX12_order_222 : decode cX12_order 222 = .ok (.aload_n 0, 1) := by decide +kernel
theorem dX12_order_223 : decode cX12_order 223 = .ok (.getfield 29, 3) := by decide +kernel
theorem dX12_order_226 : decode cX12_order 226 = .ok (.bipush 7, 2) := by decide +kernel
theorem dX12_order_228 : decode cX12_order 228 = .ok (.iload_n 1, 1) := by decide +kernel
theorem dX12_order_229 : decode cX12_order 229 = .ok (.imul, 1) := by decide +kernel
theorem dX12_order_230 : decode cX12_order 230 = .ok (.iconst 5, 1) := by decide +kernel
theorem dX12_order_231 : decode cX12_order 231 = .ok (.iadd, 1) := by decide +kernel
theorem dX12_order_232 : decode cX12_order 232 = .ok (.iload_n 3, 1) := by decide +kernel
theorem dX12_order_233 : decode cX12_order 233 = .ok (.iastore, 1) := by decide +kernel
theorem dX12_order_234 : decode cX12_order 234 = .ok (.aload_n 0, 1) := by decide +kernel
theorem dX12_order_235 : decode cX12_order 235 = .ok (.getfield 29, 3) := by decide +kernel
theorem dX12_order_238 : decode cX12_order 238 = .ok (.bipush 7, 2) := by decide +kernel
theorem dX12_order_240 : decode cX12_order 240 = .ok (.iload_n 2, 1) := by decide +kernel
theorem dX12_order_241 : decode cX12_order 241 = .ok (.imul, 1) := by decide +kernel
theorem dX12_order_242 : decode cX12_order 242 = .ok (.iconst 5, 1) := by decide +kernel
theorem dX12_order_243 : decode cX12_order 243 = .ok (.iadd, 1) := by decide +kernel
theorem dX12_order_244 : decode cX12_order 244 = .ok (.iload 4, 2) := by decide +kernel
theorem dX12_order_246 : decode cX12_order 246 = .ok (.iastore, 1) := by decide +kernel
theorem dX12_order_247 : decode cX12_order 247 = .ok (.iload 5, 2) := by decide +kernel
theorem dX12_order_249 : decode cX12_order 249 = .ok (.ifCond .ge 6, 3) := by decide +kernel
theorem dX12_order_252 : decode cX12_order 252 = .ok (.bipush (-2), 2) := by decide +kernel
theorem dX12_order_254 : decode cX12_order 254 = .ok (.ireturn, 1) := by decide +kernel
theorem dX12_order_255 : decode cX12_order 255 = .ok (.aload_n 0, 1) := by decide +kernel
theorem dX12_order_256 : decode cX12_order 256 = .ok (.iconst 0, 1) := by decide +kernel
theorem dX12_order_257 : decode cX12_order 257 = .ok (.putfield 119, 3) := by decide +kernel
theorem dX12_order_260 : decode cX12_order 260 = .ok (.aload_n 0, 1) := by decide +kernel
theorem dX12_order_261 : decode cX12_order 261 = .ok (.iload 6, 2) := by decide +kernel
theorem dX12_order_263 : decode cX12_order 263 = .ok (.i2l, 1) := by decide +kernel
theorem dX12_order_264 : decode cX12_order 264 = .ok (.invokevirtual 122, 3) := by decide +kernel
theorem dX12_order_267 : decode cX12_order 267 = .ok (.aload_n 0, 1) := by decide +kernel
theorem dX12_order_268 : decode cX12_order 268 = .ok (.iload 5, 2) := by decide +kernel
theorem dX12_order_270 : decode cX12_order 270 = .ok (.iload 6, 2) := by decide +kernel
theorem dX12_order_272 : decode cX12_order 272 = .ok (.isub, 1) := by decide +kernel
theorem dX12_order_273 : decode cX12_order 273 = .ok (.i2l, 1) := by decide +kernel
theorem dX12_order_274 : decode cX12_order 274 = .ok (.invokevirtual 122, 3) := by decide +kernel
theorem dX12_order_277 : decode cX12_order 277 = .ok (.aload_n 0, 1) := by decide +kernel
theorem dX12_order_278 : decode cX12_order 278 = .ok (.iload 7, 2) := by decide +kernel
theorem dX12_order_280 : decode cX12_order 280 = .ok (.i2l, 1) := by decide +kernel
theorem dX12_order_281 : decode cX12_order 281 = .ok (.invokevirtual 122, 3) := by decide +kernel
theorem dX12_order_284 : decode cX12_order 284 = .ok (.iload 5, 2) := by decide +kernel
theorem dX12_order_286 : decode cX12_order 286 = .ok (.ireturn, 1) := by decide +kernel
theorem dX12_refuse_0 : decode cX12_refuse 0 = .ok (.aload_n 0, 1) := by decide +kernel
theorem dX12_refuse_1 : decode cX12_refuse 1 = .ok (.iconst 1, 1) := by decide +kernel
theorem dX12_refuse_2 : decode cX12_refuse 2 = .ok (.putfield 111, 3) := by decide +kernel
theorem dX12_refuse_5 : decode cX12_refuse 5 = .ok (.iconst 0, 1) := by decide +kernel
theorem dX12_refuse_6 : decode cX12_refuse 6 = .ok (.ireturn, 1) := by decide +kernel
theorem dX12_savedAfter_0 : decode cX12_savedAfter 0 = .ok (.aload_n 0, 1) := by decide +kernel
theorem dX12_savedAfter_1 : decode cX12_savedAfter 1 = .ok (.getfield 29, 3) := by decide +kernel
theorem dX12_savedAfter_4 : decode cX12_savedAfter 4 = .ok (.aload_n 0, 1) := by decide +kernel
theorem dX12_savedAfter_5 : decode cX12_savedAfter 5 = .ok (.getfield 32, 3) := by decide +kernel
theorem dX12_savedAfter_8 : decode cX12_savedAfter 8 = .ok (.invokestatic 374, 3) := by decide +kernel
theorem dX12_savedAfter_11 : decode cX12_savedAfter 11 = .ok (.aload_n 0, 1) := by decide +kernel
theorem dX12_savedAfter_12 : decode cX12_savedAfter 12 = .ok (.getfield 32, 3) := by decide +kernel
theorem dX12_savedAfter_15 : decode cX12_savedAfter 15 = .ok (.bipush 42, 2) := by decide +kernel
theorem dX12_savedAfter_17 : decode cX12_savedAfter 17 = .ok (.dup2, 1) := by decide +kernel
theorem dX12_savedAfter_18 : decode cX12_savedAfter 18 = .ok (.iaload, 1) := by decide +kernel
theorem dX12_savedAfter_19 : decode cX12_savedAfter 19 = .ok (.iload_n 2, 1) := by decide +kernel
theorem dX12_savedAfter_20 : decode cX12_savedAfter 20 = .ok (.ixor, 1) := by decide +kernel
theorem dX12_savedAfter_21 : decode cX12_savedAfter 21 = .ok (.iastore, 1) := by decide +kernel
theorem dX12_savedAfter_22 : decode cX12_savedAfter 22 = .ok (.iconst 0, 1) := by decide +kernel
theorem dX12_savedAfter_23 : decode cX12_savedAfter 23 = .ok (.istore_n 3, 1) := by decide +kernel
theorem dX12_savedAfter_24 : decode cX12_savedAfter 24 = .ok (.iload_n 3, 1) := by decide +kernel
theorem dX12_savedAfter_25 : decode cX12_savedAfter 25 = .ok (.sipush 300, 3) := by decide +kernel
theorem dX12_savedAfter_28 : decode cX12_savedAfter 28 = .ok (.if_icmp .gt 55, 3) := by decide +kernel
theorem dX12_savedAfter_31 : decode cX12_savedAfter 31 = .ok (.aload_n 0, 1) := by decide +kernel
theorem dX12_savedAfter_32 : decode cX12_savedAfter 32 = .ok (.getfield 32, 3) := by decide +kernel
theorem dX12_savedAfter_35 : decode cX12_savedAfter 35 = .ok (.iconst 1, 1) := by decide +kernel
theorem dX12_savedAfter_36 : decode cX12_savedAfter 36 = .ok (.invokestatic 346, 3) := by decide +kernel
theorem dX12_savedAfter_39 : decode cX12_savedAfter 39 = .ok (.iload_n 1, 1) := by decide +kernel
theorem dX12_savedAfter_40 : decode cX12_savedAfter 40 = .ok (.iand, 1) := by decide +kernel
theorem dX12_savedAfter_41 : decode cX12_savedAfter 41 = .ok (.iload_n 1, 1) := by decide +kernel
theorem dX12_savedAfter_42 : decode cX12_savedAfter 42 = .ok (.if_icmp .ne 5, 3) := by decide +kernel
theorem dX12_savedAfter_45 : decode cX12_savedAfter 45 = .ok (.iload_n 3, 1) := by decide +kernel
theorem dX12_savedAfter_46 : decode cX12_savedAfter 46 = .ok (.ireturn, 1) := by decide +kernel
theorem dX12_savedAfter_47 : decode cX12_savedAfter 47 = .ok (.aload_n 0, 1) := by decide +kernel
theorem dX12_savedAfter_48 : decode cX12_savedAfter 48 = .ok (.getfield 32, 3) := by decide +kernel
theorem dX12_savedAfter_51 : decode cX12_savedAfter 51 = .ok (.iconst 2, 1) := by decide +kernel
theorem dX12_savedAfter_52 : decode cX12_savedAfter 52 = .ok (.invokestatic 346, 3) := by decide +kernel
theorem dX12_savedAfter_55 : decode cX12_savedAfter 55 = .ok (.iload_n 1, 1) := by decide +kernel
theorem dX12_savedAfter_56 : decode cX12_savedAfter 56 = .ok (.iand, 1) := by decide +kernel
theorem dX12_savedAfter_57 : decode cX12_savedAfter 57 = .ok (.ifCond .eq 5, 3) := by decide +kernel
theorem dX12_savedAfter_60 : decode cX12_savedAfter 60 = .ok (.iconst (-1), 1) := by decide +kernel
theorem dX12_savedAfter_61 : decode cX12_savedAfter 61 = .ok (.ireturn, 1) := by decide +kernel
theorem dX12_savedAfter_62 : decode cX12_savedAfter 62 = .ok (.iload_n 3, 1) := by decide +kernel
theorem dX12_savedAfter_63 : decode cX12_savedAfter 63 = .ok (.sipush 300, 3) := by decide +kernel
theorem dX12_savedAfter_66 : decode cX12_savedAfter 66 = .ok (.if_icmp .ge 11, 3) := by decide +kernel
theorem dX12_savedAfter_69 : decode cX12_savedAfter 69 = .ok (.aload_n 0, 1) := by decide +kernel
theorem dX12_savedAfter_70 : decode cX12_savedAfter 70 = .ok (.aload_n 0, 1) := by decide +kernel
theorem dX12_savedAfter_71 : decode cX12_savedAfter 71 = .ok (.getfield 32, 3) := by decide +kernel
theorem dX12_savedAfter_74 : decode cX12_savedAfter 74 = .ok (.invokevirtual 349, 3) := by decide +kernel
theorem dX12_savedAfter_77 : decode cX12_savedAfter 77 = .ok (.iinc 3 1, 3) := by decide +kernel
theorem dX12_savedAfter_80 : decode cX12_savedAfter 80 = .ok (.goto (-56), 3) := by decide +kernel
theorem dX12_savedAfter_83 : decode cX12_savedAfter 83 = .ok (.iconst (-1), 1) := by decide +kernel
theorem dX12_savedAfter_84 : decode cX12_savedAfter 84 = .ok (.ireturn, 1) := by decide +kernel
