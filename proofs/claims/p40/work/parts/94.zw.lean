theorem mw_115 : (Cond.classLink RL 8 RX11) ∈ gx_G := gx_mem 115 (by decide +kernel) (by decide +kernel)
theorem mw_116 : (Cond.instantiable RX11 16) ∈ gx_G := gx_mem 116 (by decide +kernel) (by decide +kernel)
theorem mw_117 : (Cond.methodLink RL 22 yX11_init) ∈ gx_G := gx_mem 117 (by decide +kernel) (by decide +kernel)
theorem mw_118 : (Cond.instanceMethod yX11_init) ∈ gx_G := gx_mem 118 (by decide +kernel) (by decide +kernel)
theorem mw_119 : (Cond.code yX11_init cX11_init 2 none) ∈ gx_G := gx_mem 119 (by decide +kernel) (by decide +kernel)
theorem mw_1408 : (Cond.classLink RL 23 RX12) ∈ gx_G := gx_mem 1408 (by decide +kernel) (by decide +kernel)
theorem mw_1409 : (Cond.instantiable RX12 60) ∈ gx_G := gx_mem 1409 (by decide +kernel) (by decide +kernel)
theorem mw_1410 : (Cond.methodLink RL 25 yX12_init) ∈ gx_G := gx_mem 1410 (by decide +kernel) (by decide +kernel)
theorem mw_1411 : (Cond.instanceMethod yX12_init) ∈ gx_G := gx_mem 1411 (by decide +kernel) (by decide +kernel)
theorem mw_1412 : (Cond.code yX12_init cX12_init 1 none) ∈ gx_G := gx_mem 1412 (by decide +kernel) (by decide +kernel)
theorem cw_L_22 : gx_Wi RL 22 yX11_init cX11_init 2 0 := ⟨⟨mw_117, mw_118, mw_89, mw_119⟩, by decide +kernel⟩
theorem cw_L_25 : gx_Wi RL 25 yX12_init cX12_init 1 0 := ⟨⟨mw_1410, mw_1411, mw_101, mw_1412⟩, by decide +kernel⟩
theorem dL_law_0 : decode cL_law 0 = .ok (.new 8, 3) := by decide +kernel
theorem dL_law_3 : decode cL_law 3 = .ok (.dup, 1) := by decide +kernel
theorem dL_law_4 : decode cL_law 4 = .ok (.invokespecial 22, 3) := by decide +kernel
theorem dL_law_7 : decode cL_law 7 = .ok (.astore_n 1, 1) := by decide +kernel
theorem dL_law_8 : decode cL_law 8 = .ok (.new 23, 3) := by decide +kernel
theorem dL_law_11 : decode cL_law 11 = .ok (.dup, 1) := by decide +kernel
theorem dL_law_12 : decode cL_law 12 = .ok (.invokespecial 25, 3) := by decide +kernel
theorem dL_law_15 : decode cL_law 15 = .ok (.astore_n 2, 1) := by decide +kernel
theorem dL_law_16 : decode cL_law 16 = .ok (.iconst 1, 1) := by decide +kernel
theorem dL_law_17 : decode cL_law 17 = .ok (.newarray .long, 2) := by decide +kernel
theorem dL_law_19 : decode cL_law 19 = .ok (.astore_n 3, 1) := by decide +kernel
theorem dL_law_20 : decode cL_law 20 = .ok (.iconst 0, 1) := by decide +kernel
theorem dL_law_21 : decode cL_law 21 = .ok (.istore 4, 2) := by decide +kernel
