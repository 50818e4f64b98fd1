theorem mw_512 : (Cond.methodLink RL 36 yX11_town) ∈ gx_G := gx_mem 512 (by decide +kernel) (by decide +kernel)
theorem mw_513 : (Cond.instanceMethod yX11_town) ∈ gx_G := gx_mem 513 (by decide +kernel) (by decide +kernel)
theorem mw_514 : (Cond.selects RX11 yX11_town yX11_town) ∈ gx_G := gx_mem 514 (by decide +kernel) (by decide +kernel)
theorem mw_515 : (Cond.code yX11_town cX11_town 2 (some .int)) ∈ gx_G := gx_mem 515 (by decide +kernel) (by decide +kernel)
theorem mw_1606 : (Cond.methodLink RL 40 yX12_town) ∈ gx_G := gx_mem 1606 (by decide +kernel) (by decide +kernel)
theorem mw_1607 : (Cond.instanceMethod yX12_town) ∈ gx_G := gx_mem 1607 (by decide +kernel) (by decide +kernel)
theorem mw_1608 : (Cond.selects RX12 yX12_town yX12_town) ∈ gx_G := gx_mem 1608 (by decide +kernel) (by decide +kernel)
theorem mw_1609 : (Cond.code yX12_town cX12_town 6 (some .int)) ∈ gx_G := gx_mem 1609 (by decide +kernel) (by decide +kernel)
theorem cw_L_36 : gx_Wv RL 36 yX11_town cX11_town 2 (some .int) 0 := ⟨⟨mw_512, mw_513, mw_514, mw_89, mw_515⟩, by decide +kernel⟩
theorem cw_L_40 : gx_Wv RL 40 yX12_town cX12_town 6 (some .int) 0 := ⟨⟨mw_1606, mw_1607, mw_1608, mw_101, mw_1609⟩, by decide +kernel⟩
theorem dL_law_270 : decode cL_law 270 = .ok (.aload_n 1, 1) := by decide +kernel
theorem dL_law_271 : decode cL_law 271 = .ok (.invokevirtual 36, 3) := by decide +kernel
theorem dL_law_274 : decode cL_law 274 = .ok (.pop, 1) := by decide +kernel
theorem dL_law_275 : decode cL_law 275 = .ok (.aload_n 2, 1) := by decide +kernel
theorem dL_law_276 : decode cL_law 276 = .ok (.invokevirtual 40, 3) := by decide +kernel
theorem dL_law_279 : decode cL_law 279 = .ok (.pop, 1) := by decide +kernel
theorem dL_law_280 : decode cL_law 280 = .ok (.goto 1382, 3) := by decide +kernel
