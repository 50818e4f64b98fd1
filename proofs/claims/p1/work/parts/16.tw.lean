theorem mw_1302 : (Cond.classLink RL 13 gt_X) ∈ gx_G := gx_mem 1302 (by decide +kernel) (by decide +kernel)
theorem mw_1303 : (Cond.methodLink RL 7 yX11_place) ∈ gx_G := gx_mem 1303 (by decide +kernel) (by decide +kernel)
theorem mw_1304 : (Cond.instanceMethod yX11_place) ∈ gx_G := gx_mem 1304 (by decide +kernel) (by decide +kernel)
theorem mw_1305 : (Cond.selects RX11 yX11_place yX11_place) ∈ gx_G := gx_mem 1305 (by decide +kernel) (by decide +kernel)
theorem mw_1306 : (Cond.code yX11_place cX11_place 3 (some .int)) ∈ gx_G := gx_mem 1306 (by decide +kernel) (by decide +kernel)
theorem mw_1381 : (Cond.methodLink RL 15 yX11_of) ∈ gx_G := gx_mem 1381 (by decide +kernel) (by decide +kernel)
theorem mw_1382 : (Cond.instanceMethod yX11_of) ∈ gx_G := gx_mem 1382 (by decide +kernel) (by decide +kernel)
theorem mw_1383 : (Cond.selects RX11 yX11_of yX11_of) ∈ gx_G := gx_mem 1383 (by decide +kernel) (by decide +kernel)
theorem mw_1384 : (Cond.code yX11_of cX11_of 3 (some .int)) ∈ gx_G := gx_mem 1384 (by decide +kernel) (by decide +kernel)
theorem mw_1399 : (Cond.methodLink RL 18 yX11_row) ∈ gx_G := gx_mem 1399 (by decide +kernel) (by decide +kernel)
theorem mw_1400 : (Cond.instanceMethod yX11_row) ∈ gx_G := gx_mem 1400 (by decide +kernel) (by decide +kernel)
theorem mw_1401 : (Cond.selects RX11 yX11_row yX11_row) ∈ gx_G := gx_mem 1401 (by decide +kernel) (by decide +kernel)
theorem mw_1402 : (Cond.code yX11_row cX11_row 2 (some .long)) ∈ gx_G := gx_mem 1402 (by decide +kernel) (by decide +kernel)
theorem cw_L_7 : gx_Wv RL 7 yX11_place cX11_place 3 (some .int) 2 := ⟨⟨mw_1303, mw_1304, mw_1305, mw_89, mw_1306⟩, by decide +kernel⟩
theorem cw_L_15 : gx_Wv RL 15 yX11_of cX11_of 3 (some .int) 2 := ⟨⟨mw_1381, mw_1382, mw_1383, mw_89, mw_1384⟩, by decide +kernel⟩
theorem cw_L_18 : gx_Wv RL 18 yX11_row cX11_row 2 (some .long) 1 := ⟨⟨mw_1399, mw_1400, mw_1401, mw_89, mw_1402⟩, by decide +kernel⟩
theorem ss_4 : gx_ss[4]? = some (RX11, 142, "no such place", [110, 111, 32, 115, 117, 99, 104, 32, 112, 108, 97, 99, 101]) := rfl
theorem ss_6 : gx_ss[6]? = some (RX11, 173, "no such thing", [110, 111, 32, 115, 117, 99, 104, 32, 116, 104, 105, 110, 103]) := rfl
theorem ss_8 : gx_ss[8]? = some (RX11, 424, "the row has no such number", [116, 104, 101, 32, 114, 111, 119, 32, 104, 97, 115, 32, 110, 111, 32, 115, 117, 99, 104, 32, 110, 117, 109, 98, 101, 114]) := rfl
theorem dL_of_0 : decode cL_of 0 = .ok (.aload_n 3, 1) := by decide +kernel
theorem dL_of_1 : decode cL_of 1 = .ok (.iconst 0, 1) := by decide +kernel
theorem dL_of_2 : decode cL_of 2 = .ok (.aload_n 0, 1) := by decide +kernel
theorem dL_of_3 : decode cL_of 3 = .ok (.iload_n 1, 1) := by decide +kernel
theorem dL_of_4 : decode cL_of 4 = .ok (.iload_n 2, 1) := by decide +kernel
theorem dL_of_5 : decode cL_of 5 = .ok (.invokevirtual 15, 3) := by decide +kernel
theorem dL_of_13 : decode cL_of 13 = .ok (.astore 4, 2) := by decide +kernel
theorem dL_of_15 : decode cL_of 15 = .ok (.iconst 1, 1) := by decide +kernel
theorem dL_of_16 : decode cL_of 16 = .ok (.ireturn, 1) := by decide +kernel
theorem dL_place_0 : decode cL_place 0 = .ok (.aload_n 3, 1) := by decide +kernel
theorem dL_place_1 : decode cL_place 1 = .ok (.iconst 0, 1) := by decide +kernel
theorem dL_place_2 : decode cL_place 2 = .ok (.aload_n 0, 1) := by decide +kernel
theorem dL_place_3 : decode cL_place 3 = .ok (.iload_n 1, 1) := by decide +kernel
theorem dL_place_4 : decode cL_place 4 = .ok (.iload_n 2, 1) := by decide +kernel
theorem dL_place_5 : decode cL_place 5 = .ok (.invokevirtual 7, 3) := by decide +kernel
theorem dL_place_13 : decode cL_place 13 = .ok (.astore 4, 2) := by decide +kernel
theorem dL_place_15 : decode cL_place 15 = .ok (.iconst 1, 1) := by decide +kernel
theorem dL_place_16 : decode cL_place 16 = .ok (.ireturn, 1) := by decide +kernel
theorem dL_row_0 : decode cL_row 0 = .ok (.aload_n 2, 1) := by decide +kernel
theorem dL_row_1 : decode cL_row 1 = .ok (.iconst 0, 1) := by decide +kernel
theorem dL_row_2 : decode cL_row 2 = .ok (.aload_n 0, 1) := by decide +kernel
theorem dL_row_3 : decode cL_row 3 = .ok (.iload_n 1, 1) := by decide +kernel
theorem dL_row_4 : decode cL_row 4 = .ok (.invokevirtual 18, 3) := by decide +kernel
theorem dL_row_11 : decode cL_row 11 = .ok (.astore_n 3, 1) := by decide +kernel
theorem dL_row_12 : decode cL_row 12 = .ok (.iconst 1, 1) := by decide +kernel
theorem dL_row_13 : decode cL_row 13 = .ok (.ireturn, 1) := by decide +kernel
theorem dX11_of_0 : decode cX11_of 0 = .ok (.aload_n 0, 1) := by decide +kernel
theorem dX11_of_1 : decode cX11_of 1 = .ok (.getfield 53, 3) := by decide +kernel
theorem dX11_of_4 : decode cX11_of 4 = .ok (.iload_n 1, 1) := by decide +kernel
theorem dX11_of_5 : decode cX11_of 5 = .ok (.invokevirtual 172, 3) := by decide +kernel
theorem dX11_of_8 : decode cX11_of 8 = .ok (.ifCond .ne 13, 3) := by decide +kernel
theorem dX11_of_11 : decode cX11_of 11 = .ok (.new 140, 3) := by decide +kernel
theorem dX11_of_14 : decode cX11_of 14 = .ok (.dup, 1) := by decide +kernel
theorem dX11_of_15 : decode cX11_of 15 = .ok (.ldc 173, 2) := by decide +kernel
theorem dX11_of_17 : decode cX11_of 17 = .ok (.invokespecial 144, 3) := by decide +kernel
theorem dX11_of_20 : decode cX11_of 20 = .ok (.athrow, 1) := by decide +kernel
theorem dX11_place_0 : decode cX11_place 0 = .ok (.aload_n 0, 1) := by decide +kernel
theorem dX11_place_1 : decode cX11_place 1 = .ok (.getfield 19, 3) := by decide +kernel
theorem dX11_place_4 : decode cX11_place 4 = .ok (.iload_n 1, 1) := by decide +kernel
theorem dX11_place_5 : decode cX11_place 5 = .ok (.invokevirtual 137, 3) := by decide +kernel
theorem dX11_place_8 : decode cX11_place 8 = .ok (.ifCond .ne 13, 3) := by decide +kernel
theorem dX11_place_11 : decode cX11_place 11 = .ok (.new 140, 3) := by decide +kernel
theorem dX11_place_14 : decode cX11_place 14 = .ok (.dup, 1) := by decide +kernel
theorem dX11_place_15 : decode cX11_place 15 = .ok (.ldc 142, 2) := by decide +kernel
theorem dX11_place_17 : decode cX11_place 17 = .ok (.invokespecial 144, 3) := by decide +kernel
theorem dX11_place_20 : decode cX11_place 20 = .ok (.athrow, 1) := by decide +kernel
theorem dX11_row_0 : decode cX11_row 0 = .ok (.iload_n 1, 1) := by decide +kernel
theorem dX11_row_1 : decode cX11_row 1 = .ok (.ifCond .lt 14, 3) := by decide +kernel
theorem dX11_row_4 : decode cX11_row 4 = .ok (.iload_n 1, 1) := by decide +kernel
theorem dX11_row_5 : decode cX11_row 5 = .ok (.aload_n 0, 1) := by decide +kernel
theorem dX11_row_6 : decode cX11_row 6 = .ok (.getfield 81, 3) := by decide +kernel
theorem dX11_row_9 : decode cX11_row 9 = .ok (.getfield 423, 3) := by decide +kernel
theorem dX11_row_12 : decode cX11_row 12 = .ok (.if_icmp .lt 14, 3) := by decide +kernel
theorem dX11_row_15 : decode cX11_row 15 = .ok (.new 140, 3) := by decide +kernel
theorem dX11_row_18 : decode cX11_row 18 = .ok (.dup, 1) := by decide +kernel
theorem dX11_row_19 : decode cX11_row 19 = .ok (.ldc_w 424, 3) := by decide +kernel
theorem dX11_row_22 : decode cX11_row 22 = .ok (.invokespecial 144, 3) := by decide +kernel
theorem dX11_row_25 : decode cX11_row 25 = .ok (.athrow, 1) := by decide +kernel
