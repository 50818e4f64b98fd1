theorem mw_1302 : (Cond.classLink RL 13 gt_X) ∈ gx_G := gx_mem 1302 (by decide +kernel) (by decide +kernel)
theorem mw_1303 : (Cond.methodLink RL 7 yX11_place) ∈ gx_G := gx_mem 1303 (by decide +kernel) (by decide +kernel)
theorem mw_1304 : (Cond.instanceMethod yX11_place) ∈ gx_G := gx_mem 1304 (by decide +kernel) (by decide +kernel)
theorem mw_1305 : (Cond.selects RX11 yX11_place yX11_place) ∈ gx_G := gx_mem 1305 (by decide +kernel) (by decide +kernel)
theorem mw_1306 : (Cond.code yX11_place cX11_place 3 (some .int)) ∈ gx_G := gx_mem 1306 (by decide +kernel) (by decide +kernel)
theorem mw_1372 : (Cond.methodLink RX11 147 yX8_kindOf) ∈ gx_G := gx_mem 1372 (by decide +kernel) (by decide +kernel)
theorem mw_1373 : (Cond.methodLink RX11 151 yX8_nextOf) ∈ gx_G := gx_mem 1373 (by decide +kernel) (by decide +kernel)
theorem mw_1374 : (Cond.methodLink RX11 154 yX8_secondOf) ∈ gx_G := gx_mem 1374 (by decide +kernel) (by decide +kernel)
theorem mw_1375 : (Cond.methodLink RX11 160 yX8_figureOf) ∈ gx_G := gx_mem 1375 (by decide +kernel) (by decide +kernel)
theorem mw_1376 : (Cond.methodLink RX11 163 yX6_at) ∈ gx_G := gx_mem 1376 (by decide +kernel) (by decide +kernel)
theorem mw_1381 : (Cond.methodLink RL 15 yX11_of) ∈ gx_G := gx_mem 1381 (by decide +kernel) (by decide +kernel)
theorem mw_1382 : (Cond.instanceMethod yX11_of) ∈ gx_G := gx_mem 1382 (by decide +kernel) (by decide +kernel)
theorem mw_1383 : (Cond.selects RX11 yX11_of yX11_of) ∈ gx_G := gx_mem 1383 (by decide +kernel) (by decide +kernel)
theorem mw_1384 : (Cond.code yX11_of cX11_of 3 (some .int)) ∈ gx_G := gx_mem 1384 (by decide +kernel) (by decide +kernel)
theorem mw_1386 : (Cond.methodLink RX11 190 yX6_startsIn) ∈ gx_G := gx_mem 1386 (by decide +kernel) (by decide +kernel)
theorem mw_1387 : (Cond.instanceMethod yX6_startsIn) ∈ gx_G := gx_mem 1387 (by decide +kernel) (by decide +kernel)
theorem mw_1388 : (Cond.selects RX6 yX6_startsIn yX6_startsIn) ∈ gx_G := gx_mem 1388 (by decide +kernel) (by decide +kernel)
theorem mw_1389 : (Cond.code yX6_startsIn cX6_startsIn 2 (some .int)) ∈ gx_G := gx_mem 1389 (by decide +kernel) (by decide +kernel)
theorem mw_1391 : (Cond.methodLink RX11 193 yX6_endedIn) ∈ gx_G := gx_mem 1391 (by decide +kernel) (by decide +kernel)
theorem mw_1392 : (Cond.instanceMethod yX6_endedIn) ∈ gx_G := gx_mem 1392 (by decide +kernel) (by decide +kernel)
theorem mw_1393 : (Cond.selects RX6 yX6_endedIn yX6_endedIn) ∈ gx_G := gx_mem 1393 (by decide +kernel) (by decide +kernel)
theorem mw_1394 : (Cond.code yX6_endedIn cX6_endedIn 2 (some .int)) ∈ gx_G := gx_mem 1394 (by decide +kernel) (by decide +kernel)
theorem mw_1399 : (Cond.methodLink RL 18 yX11_row) ∈ gx_G := gx_mem 1399 (by decide +kernel) (by decide +kernel)
theorem mw_1400 : (Cond.instanceMethod yX11_row) ∈ gx_G := gx_mem 1400 (by decide +kernel) (by decide +kernel)
theorem mw_1401 : (Cond.selects RX11 yX11_row yX11_row) ∈ gx_G := gx_mem 1401 (by decide +kernel) (by decide +kernel)
theorem mw_1402 : (Cond.code yX11_row cX11_row 2 (some .long)) ∈ gx_G := gx_mem 1402 (by decide +kernel) (by decide +kernel)
theorem mw_1404 : (Cond.methodLink RX11 426 yX4_numberAt) ∈ gx_G := gx_mem 1404 (by decide +kernel) (by decide +kernel)
theorem mw_1405 : (Cond.instanceMethod yX4_numberAt) ∈ gx_G := gx_mem 1405 (by decide +kernel) (by decide +kernel)
theorem mw_1406 : (Cond.selects RX4 yX4_numberAt yX4_numberAt) ∈ gx_G := gx_mem 1406 (by decide +kernel) (by decide +kernel)
theorem mw_1407 : (Cond.code yX4_numberAt cX4_numberAt 2 (some .long)) ∈ gx_G := gx_mem 1407 (by decide +kernel) (by decide +kernel)
theorem cw_L_7 : gx_Wv RL 7 yX11_place cX11_place 3 (some .int) 2 := ⟨⟨mw_1303, mw_1304, mw_1305, mw_89, mw_1306⟩, by decide +kernel⟩
theorem cw_L_15 : gx_Wv RL 15 yX11_of cX11_of 3 (some .int) 2 := ⟨⟨mw_1381, mw_1382, mw_1383, mw_89, mw_1384⟩, by decide +kernel⟩
theorem cw_L_18 : gx_Wv RL 18 yX11_row cX11_row 2 (some .long) 1 := ⟨⟨mw_1399, mw_1400, mw_1401, mw_89, mw_1402⟩, by decide +kernel⟩
theorem cw_X11_147 : gx_Wv RX11 147 yX8_kindOf cX8_kindOf 2 (some .int) 1 := ⟨⟨mw_1372, mw_872, mw_873, mw_91, mw_874⟩, by decide +kernel⟩
theorem cw_X11_151 : gx_Wv RX11 151 yX8_nextOf cX8_nextOf 2 (some .int) 1 := ⟨⟨mw_1373, mw_868, mw_869, mw_91, mw_870⟩, by decide +kernel⟩
theorem cw_X11_154 : gx_Wv RX11 154 yX8_secondOf cX8_secondOf 2 (some .int) 1 := ⟨⟨mw_1374, mw_880, mw_881, mw_91, mw_882⟩, by decide +kernel⟩
theorem cw_X11_160 : gx_Wv RX11 160 yX8_figureOf cX8_figureOf 2 (some .int) 1 := ⟨⟨mw_1375, mw_864, mw_865, mw_91, mw_866⟩, by decide +kernel⟩
theorem cw_X11_163 : gx_Wv RX11 163 yX6_at cX6_at 4 (some .int) 1 := ⟨⟨mw_1376, mw_892, mw_893, mw_95, mw_894⟩, by decide +kernel⟩
theorem cw_X11_190 : gx_Wv RX11 190 yX6_startsIn cX6_startsIn 2 (some .int) 1 := ⟨⟨mw_1386, mw_1387, mw_1388, mw_95, mw_1389⟩, by decide +kernel⟩
theorem cw_X11_193 : gx_Wv RX11 193 yX6_endedIn cX6_endedIn 2 (some .int) 1 := ⟨⟨mw_1391, mw_1392, mw_1393, mw_95, mw_1394⟩, by decide +kernel⟩
theorem cw_X11_426 : gx_Wv RX11 426 yX4_numberAt cX4_numberAt 2 (some .long) 1 := ⟨⟨mw_1404, mw_1405, mw_1406, mw_98, mw_1407⟩, by decide +kernel⟩
theorem t_46 : gx_tb[46]? = some (.inl (7, [some (some 47), some (some 48), some (some 49), some (some 50), some (some 51), some (some 52), none, none, none, none, none])) := rfl
theorem t_172 : gx_tb[172]? = some (.inr (0, 6, [])) := rfl
theorem t_178 : gx_tb[178]? = some (.inl (7, [some (some 179), some (some 180), some (some 181), some (some 182), some (some 183), some (some 184), none, none, none, none, none])) := rfl
theorem t_185 : gx_tb[185]? = some (.inl (7, [some (some 186), some (some 187), some (some 188), some (some 189), some (some 190), some (some 191), none, none, none, none, none])) := rfl
theorem t_192 : gx_tb[192]? = some (.inl (7, [some (some 193), some (some 194), some (some 195), some (some 196), some (some 197), some (some 198), none, none, none, none, none])) := rfl
theorem t_233 : gx_tb[233]? = some (.inr (1, 1, [])) := rfl
theorem ss_4 : gx_ss[4]? = some (RX11, 142, "no such place", [110, 111, 32, 115, 117, 99, 104, 32, 112, 108, 97, 99, 101]) := rfl
theorem ss_5 : gx_ss[5]? = some (RX11, 170, "a place has no such number", [97, 32, 112, 108, 97, 99, 101, 32, 104, 97, 115, 32, 110, 111, 32, 115, 117, 99, 104, 32, 110, 117, 109, 98, 101, 114]) := rfl
theorem ss_6 : gx_ss[6]? = some (RX11, 173, "no such thing", [110, 111, 32, 115, 117, 99, 104, 32, 116, 104, 105, 110, 103]) := rfl
theorem ss_7 : gx_ss[7]? = some (RX11, 196, "a thing has no such number", [97, 32, 116, 104, 105, 110, 103, 32, 104, 97, 115, 32, 110, 111, 32, 115, 117, 99, 104, 32, 110, 117, 109, 98, 101, 114]) := rfl
theorem ss_8 : gx_ss[8]? = some (RX11, 424, "the row has no such number", [116, 104, 101, 32, 114, 111, 119, 32, 104, 97, 115, 32, 110, 111, 32, 115, 117, 99, 104, 32, 110, 117, 109, 98, 101, 114]) := rfl
theorem dL_of_0 : decode cL_of 0 = .ok (.aload_n 3, 1) := by decide +kernel
theorem dL_of_1 : decode cL_of 1 = .ok (.iconst 0, 1) := by decide +kernel
theorem dL_of_2 : decode cL_of 2 = .ok (.aload_n 0, 1) := by decide +kernel
theorem dL_of_3 : decode cL_of 3 = .ok (.iload_n 1, 1) := by decide +kernel
theorem dL_of_4 : decode cL_of 4 = .ok (.iload_n 2, 1) := by decide +kernel
theorem dL_of_5 : decode cL_of 5 = .ok (.invokevirtual 15, 3) := by decide +kernel
theorem dL_of_8 : decode cL_of 8 = .ok (.i2l, 1) := by decide +kernel
theorem dL_of_9 : decode cL_of 9 = .ok (.lastore, 1) := by decide +kernel
theorem dL_of_10 : decode cL_of 10 = .ok (.goto 7, 3) := by decide +kernel
theorem dL_of_13 : decode cL_of 13 = .ok (.astore 4, 2) := by decide +kernel
theorem dL_of_15 : decode cL_of 15 = .ok (.iconst 1, 1) := by decide +kernel
theorem dL_of_16 : decode cL_of 16 = .ok (.ireturn, 1) := by decide +kernel
theorem dL_of_17 : decode cL_of 17 = .ok (.iconst 0, 1) := by decide +kernel
theorem dL_of_18 : decode cL_of 18 = .ok (.ireturn, 1) := by decide +kernel
theorem dL_place_0 : decode cL_place 0 = .ok (.aload_n 3, 1) := by decide +kernel
theorem dL_place_1 : decode cL_place 1 = .ok (.iconst 0, 1) := by decide +kernel
theorem dL_place_2 : decode cL_place 2 = .ok (.aload_n 0, 1) := by decide +kernel
theorem dL_place_3 : decode cL_place 3 = .ok (.iload_n 1, 1) := by decide +kernel
theorem dL_place_4 : decode cL_place 4 = .ok (.iload_n 2, 1) := by decide +kernel
theorem dL_place_5 : decode cL_place 5 = .ok (.invokevirtual 7, 3) := by decide +kernel
theorem dL_place_8 : decode cL_place 8 = .ok (.i2l, 1) := by decide +kernel
theorem dL_place_9 : decode cL_place 9 = .ok (.lastore, 1) := by decide +kernel
theorem dL_place_10 : decode cL_place 10 = .ok (.goto 7, 3) := by decide +kernel
theorem dL_place_13 : decode cL_place 13 = .ok (.astore 4, 2) := by decide +kernel
theorem dL_place_15 : decode cL_place 15 = .ok (.iconst 1, 1) := by decide +kernel
theorem dL_place_16 : decode cL_place 16 = .ok (.ireturn, 1) := by decide +kernel
theorem dL_place_17 : decode cL_place 17 = .ok (.iconst 0, 1) := by decide +kernel
theorem dL_place_18 : decode cL_place 18 = .ok (.ireturn, 1) := by decide +kernel
theorem dL_row_0 : decode cL_row 0 = .ok (.aload_n 2, 1) := by decide +kernel
theorem dL_row_1 : decode cL_row 1 = .ok (.iconst 0, 1) := by decide +kernel
theorem dL_row_2 : decode cL_row 2 = .ok (.aload_n 0, 1) := by decide +kernel
theorem dL_row_3 : decode cL_row 3 = .ok (.iload_n 1, 1) := by decide +kernel
theorem dL_row_4 : decode cL_row 4 = .ok (.invokevirtual 18, 3) := by decide +kernel
theorem dL_row_7 : decode cL_row 7 = .ok (.lastore, 1) := by decide +kernel
theorem dL_row_8 : decode cL_row 8 = .ok (.goto 6, 3) := by decide +kernel
theorem dL_row_11 : decode cL_row 11 = .ok (.astore_n 3, 1) := by decide +kernel
theorem dL_row_12 : decode cL_row 12 = .ok (.iconst 1, 1) := by decide +kernel
theorem dL_row_13 : decode cL_row 13 = .ok (.ireturn, 1) := by decide +kernel
theorem dL_row_14 : decode cL_row 14 = .ok (.iconst 0, 1) := by decide +kernel
theorem dL_row_15 : decode cL_row 15 = .ok (.ireturn, 1) := by decide +kernel
theorem dX11_of_0 : decode cX11_of 0 = .ok (.aload_n 0, 1) := by decide +kernel
theorem dX11_of_1 : decode cX11_of 1 = .ok (.getfield 53, 3) := by decide +kernel
theorem dX11_of_4 : decode cX11_of 4 = .ok (.iload_n 1, 1) := by decide +kernel
theorem dX11_of_5 : decode cX11_of 5 = .ok (.invokevirtual 172, 3) := by decide +kernel
theorem dX11_of_8 : decode cX11_of 8 = .ok (.ifCond .ne 13, 3) := by decide +kernel
theorem dX11_of_11 : decode cX11_of 11 = .ok (.new 140, 3) := by decide +kernel
theorem dX11_of_14 : decode cX11_of 14 = .ok (.dup, 1) := by decide +kernel
theorem dX11_of_15 : decode cX11_of 15 = .ok (.ldc 173, 2) := by decide +kernel
theorem dX11_of_17 : decode cX11_of 17 = .ok (.invokespecial 144, 3) := by decide +kernel
theorem dX11_of_20 : decode cX11_of 20 = .ok (.athrow, 1) := by decide +kernel
theorem dX11_of_21 : decode cX11_of 21 = .ok (.iload_n 2, 1) := by decide +kernel
theorem dX11_of_22 : decode cX11_of 22 = .ok (.tableswitch 105 0 6 #[42, 51, 60, 69, 78, 87, 96], 42) := by decide +kernel
theorem dX11_of_64 : decode cX11_of 64 = .ok (.aload_n 0, 1) := by decide +kernel
theorem dX11_of_65 : decode cX11_of 65 = .ok (.getfield 53, 3) := by decide +kernel
theorem dX11_of_68 : decode cX11_of 68 = .ok (.iload_n 1, 1) := by decide +kernel
theorem dX11_of_69 : decode cX11_of 69 = .ok (.invokevirtual 175, 3) := by decide +kernel
theorem dX11_of_72 : decode cX11_of 72 = .ok (.ireturn, 1) := by decide +kernel
theorem dX11_of_73 : decode cX11_of 73 = .ok (.aload_n 0, 1) := by decide +kernel
theorem dX11_of_74 : decode cX11_of 74 = .ok (.getfield 53, 3) := by decide +kernel
theorem dX11_of_77 : decode cX11_of 77 = .ok (.iload_n 1, 1) := by decide +kernel
theorem dX11_of_78 : decode cX11_of 78 = .ok (.invokevirtual 178, 3) := by decide +kernel
theorem dX11_of_81 : decode cX11_of 81 = .ok (.ireturn, 1) := by decide +kernel
theorem dX11_of_82 : decode cX11_of 82 = .ok (.aload_n 0, 1) := by decide +kernel
theorem dX11_of_83 : decode cX11_of 83 = .ok (.getfield 53, 3) := by decide +kernel
theorem dX11_of_86 : decode cX11_of 86 = .ok (.iload_n 1, 1) := by decide +kernel
theorem dX11_of_87 : decode cX11_of 87 = .ok (.invokevirtual 181, 3) := by decide +kernel
theorem dX11_of_90 : decode cX11_of 90 = .ok (.ireturn, 1) := by decide +kernel
theorem dX11_of_91 : decode cX11_of 91 = .ok (.aload_n 0, 1) := by decide +kernel
theorem dX11_of_92 : decode cX11_of 92 = .ok (.getfield 53, 3) := by decide +kernel
theorem dX11_of_95 : decode cX11_of 95 = .ok (.iload_n 1, 1) := by decide +kernel
theorem dX11_of_96 : decode cX11_of 96 = .ok (.invokevirtual 184, 3) := by decide +kernel
theorem dX11_of_99 : decode cX11_of 99 = .ok (.ireturn, 1) := by decide +kernel
theorem dX11_of_100 : decode cX11_of 100 = .ok (.aload_n 0, 1) := by decide +kernel
theorem dX11_of_101 : decode cX11_of 101 = .ok (.getfield 53, 3) := by decide +kernel
theorem dX11_of_104 : decode cX11_of 104 = .ok (.iload_n 1, 1) := by decide +kernel
theorem dX11_of_105 : decode cX11_of 105 = .ok (.invokevirtual 187, 3) := by decide +kernel
theorem dX11_of_108 : decode cX11_of 108 = .ok (.ireturn, 1) := by decide +kernel
theorem dX11_of_109 : decode cX11_of 109 = .ok (.aload_n 0, 1) := by decide +kernel
theorem dX11_of_110 : decode cX11_of 110 = .ok (.getfield 53, 3) := by decide +kernel
theorem dX11_of_113 : decode cX11_of 113 = .ok (.iload_n 1, 1) := by decide +kernel
theorem dX11_of_114 : decode cX11_of 114 = .ok (.invokevirtual 190, 3) := by decide +kernel
theorem dX11_of_117 : decode cX11_of 117 = .ok (.ireturn, 1) := by decide +kernel
theorem dX11_of_118 : decode cX11_of 118 = .ok (.aload_n 0, 1) := by decide +kernel
theorem dX11_of_119 : decode cX11_of 119 = .ok (.getfield 53, 3) := by decide +kernel
theorem dX11_of_122 : decode cX11_of 122 = .ok (.iload_n 1, 1) := by decide +kernel
theorem dX11_of_123 : decode cX11_of 123 = .ok (.invokevirtual 193, 3) := by decide +kernel
theorem dX11_of_126 : decode cX11_of 126 = .ok (.ireturn, 1) := by decide +kernel
theorem dX11_of_127 : decode cX11_of 127 = .ok (.new 140, 3) := by decide +kernel
theorem dX11_of_130 : decode cX11_of 130 = .ok (.dup, 1) := by decide +kernel
theorem dX11_of_131 : decode cX11_of 131 = .ok (.ldc 196, 2) := by decide +kernel
theorem dX11_of_133 : decode cX11_of 133 = .ok (.invokespecial 144, 3) := by decide +kernel
theorem dX11_of_136 : decode cX11_of 136 = .ok (.athrow, 1) := by decide +kernel
theorem dX11_place_0 : decode cX11_place 0 = .ok (.aload_n 0, 1) := by decide +kernel
theorem dX11_place_1 : decode cX11_place 1 = .ok (.getfield 19, 3) := by decide +kernel
theorem dX11_place_4 : decode cX11_place 4 = .ok (.iload_n 1, 1) := by decide +kernel
theorem dX11_place_5 : decode cX11_place 5 = .ok (.invokevirtual 137, 3) := by decide +kernel
theorem dX11_place_8 : decode cX11_place 8 = .ok (.ifCond .ne 13, 3) := by decide +kernel
theorem dX11_place_11 : decode cX11_place 11 = .ok (.new 140, 3) := by decide +kernel
theorem dX11_place_14 : decode cX11_place 14 = .ok (.dup, 1) := by decide +kernel
theorem dX11_place_15 : decode cX11_place 15 = .ok (.ldc 142, 2) := by decide +kernel
theorem dX11_place_17 : decode cX11_place 17 = .ok (.invokespecial 144, 3) := by decide +kernel
theorem dX11_place_20 : decode cX11_place 20 = .ok (.athrow, 1) := by decide +kernel
theorem dX11_place_21 : decode cX11_place 21 = .ok (.iload_n 2, 1) := by decide +kernel
theorem dX11_place_22 : decode cX11_place 22 = .ok (.tableswitch 103 0 5 #[38, 47, 56, 65, 77, 86], 38) := by decide +kernel
theorem dX11_place_60 : decode cX11_place 60 = .ok (.aload_n 0, 1) := by decide +kernel
theorem dX11_place_61 : decode cX11_place 61 = .ok (.getfield 19, 3) := by decide +kernel
theorem dX11_place_64 : decode cX11_place 64 = .ok (.iload_n 1, 1) := by decide +kernel
theorem dX11_place_65 : decode cX11_place 65 = .ok (.invokevirtual 147, 3) := by decide +kernel
theorem dX11_place_68 : decode cX11_place 68 = .ok (.ireturn, 1) := by decide +kernel
theorem dX11_place_69 : decode cX11_place 69 = .ok (.aload_n 0, 1) := by decide +kernel
theorem dX11_place_70 : decode cX11_place 70 = .ok (.getfield 19, 3) := by decide +kernel
theorem dX11_place_73 : decode cX11_place 73 = .ok (.iload_n 1, 1) := by decide +kernel
theorem dX11_place_74 : decode cX11_place 74 = .ok (.invokevirtual 151, 3) := by decide +kernel
theorem dX11_place_77 : decode cX11_place 77 = .ok (.ireturn, 1) := by decide +kernel
theorem dX11_place_78 : decode cX11_place 78 = .ok (.aload_n 0, 1) := by decide +kernel
theorem dX11_place_79 : decode cX11_place 79 = .ok (.getfield 19, 3) := by decide +kernel
theorem dX11_place_82 : decode cX11_place 82 = .ok (.iload_n 1, 1) := by decide +kernel
theorem dX11_place_83 : decode cX11_place 83 = .ok (.invokevirtual 154, 3) := by decide +kernel
theorem dX11_place_86 : decode cX11_place 86 = .ok (.ireturn, 1) := by decide +kernel
theorem dX11_place_87 : decode cX11_place 87 = .ok (.aload_n 0, 1) := by decide +kernel
theorem dX11_place_88 : decode cX11_place 88 = .ok (.getfield 53, 3) := by decide +kernel
theorem dX11_place_91 : decode cX11_place 91 = .ok (.getfield 157, 3) := by decide +kernel
theorem dX11_place_94 : decode cX11_place 94 = .ok (.iload_n 1, 1) := by decide +kernel
theorem dX11_place_95 : decode cX11_place 95 = .ok (.ishr, 1) := by decide +kernel
theorem dX11_place_96 : decode cX11_place 96 = .ok (.iconst 1, 1) := by decide +kernel
theorem dX11_place_97 : decode cX11_place 97 = .ok (.iand, 1) := by decide +kernel
theorem dX11_place_98 : decode cX11_place 98 = .ok (.ireturn, 1) := by decide +kernel
theorem dX11_place_99 : decode cX11_place 99 = .ok (.aload_n 0, 1) := by decide +kernel
theorem dX11_place_100 : decode cX11_place 100 = .ok (.getfield 19, 3) := by decide +kernel
theorem dX11_place_103 : decode cX11_place 103 = .ok (.iload_n 1, 1) := by decide +kernel
theorem dX11_place_104 : decode cX11_place 104 = .ok (.invokevirtual 160, 3) := by decide +kernel
theorem dX11_place_107 : decode cX11_place 107 = .ok (.ireturn, 1) := by decide +kernel
theorem dX11_place_108 : decode cX11_place 108 = .ok (.aload_n 0, 1) := by decide +kernel
theorem dX11_place_109 : decode cX11_place 109 = .ok (.getfield 53, 3) := by decide +kernel
theorem dX11_place_112 : decode cX11_place 112 = .ok (.iload_n 1, 1) := by decide +kernel
theorem dX11_place_113 : decode cX11_place 113 = .ok (.invokevirtual 163, 3) := by decide +kernel
theorem dX11_place_116 : decode cX11_place 116 = .ok (.aload_n 0, 1) := by decide +kernel
theorem dX11_place_117 : decode cX11_place 117 = .ok (.getfield 53, 3) := by decide +kernel
theorem dX11_place_120 : decode cX11_place 120 = .ok (.invokevirtual 166, 3) := by decide +kernel
theorem dX11_place_123 : decode cX11_place 123 = .ok (.iand, 1) := by decide +kernel
theorem dX11_place_124 : decode cX11_place 124 = .ok (.ireturn, 1) := by decide +kernel
theorem dX11_place_125 : decode cX11_place 125 = .ok (.new 140, 3) := by decide +kernel
theorem dX11_place_128 : decode cX11_place 128 = .ok (.dup, 1) := by decide +kernel
theorem dX11_place_129 : decode cX11_place 129 = .ok (.ldc 170, 2) := by decide +kernel
theorem dX11_place_131 : decode cX11_place 131 = .ok (.invokespecial 144, 3) := by decide +kernel
theorem dX11_place_134 : decode cX11_place 134 = .ok (.athrow, 1) := by decide +kernel
theorem dX11_row_0 : decode cX11_row 0 = .ok (.iload_n 1, 1) := by decide +kernel
theorem dX11_row_1 : decode cX11_row 1 = .ok (.ifCond .lt 14, 3) := by decide +kernel
theorem dX11_row_4 : decode cX11_row 4 = .ok (.iload_n 1, 1) := by decide +kernel
theorem dX11_row_5 : decode cX11_row 5 = .ok (.aload_n 0, 1) := by decide +kernel
theorem dX11_row_6 : decode cX11_row 6 = .ok (.getfield 81, 3) := by decide +kernel
theorem dX11_row_9 : decode cX11_row 9 = .ok (.getfield 423, 3) := by decide +kernel
theorem dX11_row_12 : decode cX11_row 12 = .ok (.if_icmp .lt 14, 3) := by decide +kernel
theorem dX11_row_15 : decode cX11_row 15 = .ok (.new 140, 3) := by decide +kernel
theorem dX11_row_18 : decode cX11_row 18 = .ok (.dup, 1) := by decide +kernel
theorem dX11_row_19 : decode cX11_row 19 = .ok (.ldc_w 424, 3) := by decide +kernel
theorem dX11_row_22 : decode cX11_row 22 = .ok (.invokespecial 144, 3) := by decide +kernel
theorem dX11_row_25 : decode cX11_row 25 = .ok (.athrow, 1) := by decide +kernel
theorem dX11_row_26 : decode cX11_row 26 = .ok (.aload_n 0, 1) := by decide +kernel
theorem dX11_row_27 : decode cX11_row 27 = .ok (.getfield 81, 3) := by decide +kernel
theorem dX11_row_30 : decode cX11_row 30 = .ok (.iload_n 1, 1) := by decide +kernel
theorem dX11_row_31 : decode cX11_row 31 = .ok (.invokevirtual 426, 3) := by decide +kernel
theorem dX11_row_34 : decode cX11_row 34 = .ok (.lreturn, 1) := by decide +kernel
