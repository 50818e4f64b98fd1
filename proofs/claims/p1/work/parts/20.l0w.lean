theorem mw_88 : (Cond.initialized RL) ∈ gx_G := gx_mem 88 (by decide +kernel) (by decide +kernel)
theorem mw_496 : (Cond.methodLink RL 26 yX11_sign) ∈ gx_G := gx_mem 496 (by decide +kernel) (by decide +kernel)
theorem mw_497 : (Cond.instanceMethod yX11_sign) ∈ gx_G := gx_mem 497 (by decide +kernel) (by decide +kernel)
theorem mw_498 : (Cond.selects RX11 yX11_sign yX11_sign) ∈ gx_G := gx_mem 498 (by decide +kernel) (by decide +kernel)
theorem mw_499 : (Cond.code yX11_sign cX11_sign 2 (some .int)) ∈ gx_G := gx_mem 499 (by decide +kernel) (by decide +kernel)
theorem mw_504 : (Cond.methodLink RL 31 yX11_end) ∈ gx_G := gx_mem 504 (by decide +kernel) (by decide +kernel)
theorem mw_505 : (Cond.instanceMethod yX11_end) ∈ gx_G := gx_mem 505 (by decide +kernel) (by decide +kernel)
theorem mw_506 : (Cond.selects RX11 yX11_end yX11_end) ∈ gx_G := gx_mem 506 (by decide +kernel) (by decide +kernel)
theorem mw_507 : (Cond.code yX11_end cX11_end 2 (some .boolean)) ∈ gx_G := gx_mem 507 (by decide +kernel) (by decide +kernel)
theorem mw_512 : (Cond.methodLink RL 36 yX11_town) ∈ gx_G := gx_mem 512 (by decide +kernel) (by decide +kernel)
theorem mw_513 : (Cond.instanceMethod yX11_town) ∈ gx_G := gx_mem 513 (by decide +kernel) (by decide +kernel)
theorem mw_514 : (Cond.selects RX11 yX11_town yX11_town) ∈ gx_G := gx_mem 514 (by decide +kernel) (by decide +kernel)
theorem mw_515 : (Cond.code yX11_town cX11_town 2 (some .int)) ∈ gx_G := gx_mem 515 (by decide +kernel) (by decide +kernel)
theorem mw_681 : (Cond.methodLink RL 41 yX11_water) ∈ gx_G := gx_mem 681 (by decide +kernel) (by decide +kernel)
theorem mw_682 : (Cond.instanceMethod yX11_water) ∈ gx_G := gx_mem 682 (by decide +kernel) (by decide +kernel)
theorem mw_683 : (Cond.selects RX11 yX11_water yX11_water) ∈ gx_G := gx_mem 683 (by decide +kernel) (by decide +kernel)
theorem mw_684 : (Cond.code yX11_water cX11_water 2 (some .int)) ∈ gx_G := gx_mem 684 (by decide +kernel) (by decide +kernel)
theorem mw_693 : (Cond.methodLink RL 45 yX11_rule) ∈ gx_G := gx_mem 693 (by decide +kernel) (by decide +kernel)
theorem mw_694 : (Cond.instanceMethod yX11_rule) ∈ gx_G := gx_mem 694 (by decide +kernel) (by decide +kernel)
theorem mw_695 : (Cond.selects RX11 yX11_rule yX11_rule) ∈ gx_G := gx_mem 695 (by decide +kernel) (by decide +kernel)
theorem mw_696 : (Cond.code yX11_rule cX11_rule 2 (some .int)) ∈ gx_G := gx_mem 696 (by decide +kernel) (by decide +kernel)
theorem mw_1299 : (Cond.methodLink RL 49 yL_place) ∈ gx_G := gx_mem 1299 (by decide +kernel) (by decide +kernel)
theorem mw_1300 : (Cond.static yL_place) ∈ gx_G := gx_mem 1300 (by decide +kernel) (by decide +kernel)
theorem mw_1301 : (Cond.codeWith yL_place cL_place 5 (some .int) [(0, 10, 13, 13)]) ∈ gx_G := gx_mem 1301 (by decide +kernel) (by decide +kernel)
theorem mw_1595 : (Cond.methodLink RL 55 yX12_thrown) ∈ gx_G := gx_mem 1595 (by decide +kernel) (by decide +kernel)
theorem mw_1596 : (Cond.instanceMethod yX12_thrown) ∈ gx_G := gx_mem 1596 (by decide +kernel) (by decide +kernel)
theorem mw_1597 : (Cond.selects RX12 yX12_thrown yX12_thrown) ∈ gx_G := gx_mem 1597 (by decide +kernel) (by decide +kernel)
theorem mw_1598 : (Cond.code yX12_thrown cX12_thrown 1 (some .int)) ∈ gx_G := gx_mem 1598 (by decide +kernel) (by decide +kernel)
theorem mw_1599 : (Cond.methodLink RL 30 yX12_sign) ∈ gx_G := gx_mem 1599 (by decide +kernel) (by decide +kernel)
theorem mw_1600 : (Cond.instanceMethod yX12_sign) ∈ gx_G := gx_mem 1600 (by decide +kernel) (by decide +kernel)
theorem mw_1601 : (Cond.selects RX12 yX12_sign yX12_sign) ∈ gx_G := gx_mem 1601 (by decide +kernel) (by decide +kernel)
theorem mw_1602 : (Cond.code yX12_sign cX12_sign 3 (some .int)) ∈ gx_G := gx_mem 1602 (by decide +kernel) (by decide +kernel)
theorem mw_1603 : (Cond.methodLink RL 35 yX12_end) ∈ gx_G := gx_mem 1603 (by decide +kernel) (by decide +kernel)
theorem mw_1604 : (Cond.instanceMethod yX12_end) ∈ gx_G := gx_mem 1604 (by decide +kernel) (by decide +kernel)
theorem mw_1605 : (Cond.selects RX12 yX12_end yX12_end) ∈ gx_G := gx_mem 1605 (by decide +kernel) (by decide +kernel)
theorem mw_1606 : (Cond.code yX12_end cX12_end 2 (some .boolean)) ∈ gx_G := gx_mem 1606 (by decide +kernel) (by decide +kernel)
theorem mw_1610 : (Cond.methodLink RL 40 yX12_town) ∈ gx_G := gx_mem 1610 (by decide +kernel) (by decide +kernel)
theorem mw_1611 : (Cond.instanceMethod yX12_town) ∈ gx_G := gx_mem 1611 (by decide +kernel) (by decide +kernel)
theorem mw_1612 : (Cond.selects RX12 yX12_town yX12_town) ∈ gx_G := gx_mem 1612 (by decide +kernel) (by decide +kernel)
theorem mw_1613 : (Cond.code yX12_town cX12_town 6 (some .int)) ∈ gx_G := gx_mem 1613 (by decide +kernel) (by decide +kernel)
theorem mw_1750 : (Cond.methodLink RL 44 yX12_water) ∈ gx_G := gx_mem 1750 (by decide +kernel) (by decide +kernel)
theorem mw_1751 : (Cond.instanceMethod yX12_water) ∈ gx_G := gx_mem 1751 (by decide +kernel) (by decide +kernel)
theorem mw_1752 : (Cond.selects RX12 yX12_water yX12_water) ∈ gx_G := gx_mem 1752 (by decide +kernel) (by decide +kernel)
theorem mw_1753 : (Cond.code yX12_water cX12_water 5 (some .int)) ∈ gx_G := gx_mem 1753 (by decide +kernel) (by decide +kernel)
theorem mw_1755 : (Cond.methodLink RL 48 yX12_rule) ∈ gx_G := gx_mem 1755 (by decide +kernel) (by decide +kernel)
theorem mw_1756 : (Cond.instanceMethod yX12_rule) ∈ gx_G := gx_mem 1756 (by decide +kernel) (by decide +kernel)
theorem mw_1757 : (Cond.selects RX12 yX12_rule yX12_rule) ∈ gx_G := gx_mem 1757 (by decide +kernel) (by decide +kernel)
theorem mw_1758 : (Cond.code yX12_rule cX12_rule 5 (some .int)) ∈ gx_G := gx_mem 1758 (by decide +kernel) (by decide +kernel)
theorem mw_1785 : (Cond.methodLink RL 54 yX12_place) ∈ gx_G := gx_mem 1785 (by decide +kernel) (by decide +kernel)
theorem mw_1786 : (Cond.instanceMethod yX12_place) ∈ gx_G := gx_mem 1786 (by decide +kernel) (by decide +kernel)
theorem mw_1787 : (Cond.selects RX12 yX12_place yX12_place) ∈ gx_G := gx_mem 1787 (by decide +kernel) (by decide +kernel)
theorem mw_1788 : (Cond.code yX12_place cX12_place 5 (some .int)) ∈ gx_G := gx_mem 1788 (by decide +kernel) (by decide +kernel)
theorem cw_L_26 : gx_Wv RL 26 yX11_sign cX11_sign 2 (some .int) 1 := ⟨⟨mw_496, mw_497, mw_498, mw_89, mw_499⟩, by decide +kernel⟩
theorem cw_L_30 : gx_Wv RL 30 yX12_sign cX12_sign 3 (some .int) 1 := ⟨⟨mw_1599, mw_1600, mw_1601, mw_101, mw_1602⟩, by decide +kernel⟩
theorem cw_L_31 : gx_Wv RL 31 yX11_end cX11_end 2 (some .boolean) 1 := ⟨⟨mw_504, mw_505, mw_506, mw_89, mw_507⟩, by decide +kernel⟩
theorem cw_L_35 : gx_Wv RL 35 yX12_end cX12_end 2 (some .boolean) 1 := ⟨⟨mw_1603, mw_1604, mw_1605, mw_101, mw_1606⟩, by decide +kernel⟩
theorem cw_L_36 : gx_Wv RL 36 yX11_town cX11_town 2 (some .int) 0 := ⟨⟨mw_512, mw_513, mw_514, mw_89, mw_515⟩, by decide +kernel⟩
theorem cw_L_40 : gx_Wv RL 40 yX12_town cX12_town 6 (some .int) 0 := ⟨⟨mw_1610, mw_1611, mw_1612, mw_101, mw_1613⟩, by decide +kernel⟩
theorem cw_L_41 : gx_Wv RL 41 yX11_water cX11_water 2 (some .int) 0 := ⟨⟨mw_681, mw_682, mw_683, mw_89, mw_684⟩, by decide +kernel⟩
theorem cw_L_44 : gx_Wv RL 44 yX12_water cX12_water 5 (some .int) 0 := ⟨⟨mw_1750, mw_1751, mw_1752, mw_101, mw_1753⟩, by decide +kernel⟩
theorem cw_L_45 : gx_Wv RL 45 yX11_rule cX11_rule 2 (some .int) 0 := ⟨⟨mw_693, mw_694, mw_695, mw_89, mw_696⟩, by decide +kernel⟩
theorem cw_L_48 : gx_Wv RL 48 yX12_rule cX12_rule 5 (some .int) 0 := ⟨⟨mw_1755, mw_1756, mw_1757, mw_101, mw_1758⟩, by decide +kernel⟩
theorem cw_L_49 : gx_Wsw RL 49 yL_place cL_place 5 [(0, 10, 13, 13)] 4 := ⟨⟨mw_1299, mw_1300, mw_88, mw_1301⟩, by decide +kernel⟩
theorem cw_L_54 : gx_Wv RL 54 yX12_place cX12_place 5 (some .int) 2 := ⟨⟨mw_1785, mw_1786, mw_1787, mw_101, mw_1788⟩, by decide +kernel⟩
theorem cw_L_55 : gx_Wv RL 55 yX12_thrown cX12_thrown 1 (some .int) 0 := ⟨⟨mw_1595, mw_1596, mw_1597, mw_101, mw_1598⟩, by decide +kernel⟩
theorem dL_law_220 : decode cL_law 220 = .ok (.aload_n 1, 1) := by decide +kernel
theorem dL_law_221 : decode cL_law 221 = .ok (.aload_n 0, 1) := by decide +kernel
theorem dL_law_222 : decode cL_law 222 = .ok (.iload 4, 2) := by decide +kernel
theorem dL_law_224 : decode cL_law 224 = .ok (.iconst 1, 1) := by decide +kernel
theorem dL_law_225 : decode cL_law 225 = .ok (.iadd, 1) := by decide +kernel
theorem dL_law_226 : decode cL_law 226 = .ok (.iaload, 1) := by decide +kernel
theorem dL_law_227 : decode cL_law 227 = .ok (.invokevirtual 26, 3) := by decide +kernel
theorem dL_law_230 : decode cL_law 230 = .ok (.aload_n 2, 1) := by decide +kernel
theorem dL_law_231 : decode cL_law 231 = .ok (.aload_n 0, 1) := by decide +kernel
theorem dL_law_232 : decode cL_law 232 = .ok (.iload 4, 2) := by decide +kernel
theorem dL_law_234 : decode cL_law 234 = .ok (.iconst 1, 1) := by decide +kernel
theorem dL_law_235 : decode cL_law 235 = .ok (.iadd, 1) := by decide +kernel
theorem dL_law_236 : decode cL_law 236 = .ok (.iaload, 1) := by decide +kernel
theorem dL_law_237 : decode cL_law 237 = .ok (.invokevirtual 30, 3) := by decide +kernel
theorem dL_law_240 : decode cL_law 240 = .ok (.if_icmp .eq 1505, 3) := by decide +kernel
theorem dL_law_245 : decode cL_law 245 = .ok (.aload_n 1, 1) := by decide +kernel
theorem dL_law_246 : decode cL_law 246 = .ok (.aload_n 0, 1) := by decide +kernel
theorem dL_law_247 : decode cL_law 247 = .ok (.iload 4, 2) := by decide +kernel
theorem dL_law_249 : decode cL_law 249 = .ok (.iconst 1, 1) := by decide +kernel
theorem dL_law_250 : decode cL_law 250 = .ok (.iadd, 1) := by decide +kernel
theorem dL_law_251 : decode cL_law 251 = .ok (.iaload, 1) := by decide +kernel
theorem dL_law_252 : decode cL_law 252 = .ok (.invokevirtual 31, 3) := by decide +kernel
theorem dL_law_255 : decode cL_law 255 = .ok (.aload_n 2, 1) := by decide +kernel
theorem dL_law_256 : decode cL_law 256 = .ok (.aload_n 0, 1) := by decide +kernel
theorem dL_law_257 : decode cL_law 257 = .ok (.iload 4, 2) := by decide +kernel
theorem dL_law_259 : decode cL_law 259 = .ok (.iconst 1, 1) := by decide +kernel
theorem dL_law_260 : decode cL_law 260 = .ok (.iadd, 1) := by decide +kernel
theorem dL_law_261 : decode cL_law 261 = .ok (.iaload, 1) := by decide +kernel
theorem dL_law_262 : decode cL_law 262 = .ok (.invokevirtual 35, 3) := by decide +kernel
theorem dL_law_265 : decode cL_law 265 = .ok (.if_icmp .eq 1480, 3) := by decide +kernel
theorem dL_law_270 : decode cL_law 270 = .ok (.aload_n 1, 1) := by decide +kernel
theorem dL_law_271 : decode cL_law 271 = .ok (.invokevirtual 36, 3) := by decide +kernel
theorem dL_law_274 : decode cL_law 274 = .ok (.aload_n 2, 1) := by decide +kernel
theorem dL_law_275 : decode cL_law 275 = .ok (.invokevirtual 40, 3) := by decide +kernel
theorem dL_law_278 : decode cL_law 278 = .ok (.if_icmp .eq 1467, 3) := by decide +kernel
theorem dL_law_283 : decode cL_law 283 = .ok (.aload_n 1, 1) := by decide +kernel
theorem dL_law_284 : decode cL_law 284 = .ok (.invokevirtual 41, 3) := by decide +kernel
theorem dL_law_287 : decode cL_law 287 = .ok (.aload_n 2, 1) := by decide +kernel
theorem dL_law_288 : decode cL_law 288 = .ok (.invokevirtual 44, 3) := by decide +kernel
theorem dL_law_291 : decode cL_law 291 = .ok (.if_icmp .eq 1454, 3) := by decide +kernel
theorem dL_law_296 : decode cL_law 296 = .ok (.aload_n 1, 1) := by decide +kernel
theorem dL_law_297 : decode cL_law 297 = .ok (.invokevirtual 45, 3) := by decide +kernel
theorem dL_law_300 : decode cL_law 300 = .ok (.aload_n 2, 1) := by decide +kernel
theorem dL_law_301 : decode cL_law 301 = .ok (.invokevirtual 48, 3) := by decide +kernel
theorem dL_law_304 : decode cL_law 304 = .ok (.if_icmp .eq 1441, 3) := by decide +kernel
theorem dL_law_309 : decode cL_law 309 = .ok (.aload_n 1, 1) := by decide +kernel
theorem dL_law_310 : decode cL_law 310 = .ok (.aload_n 0, 1) := by decide +kernel
theorem dL_law_311 : decode cL_law 311 = .ok (.iload 4, 2) := by decide +kernel
theorem dL_law_313 : decode cL_law 313 = .ok (.iconst 1, 1) := by decide +kernel
theorem dL_law_314 : decode cL_law 314 = .ok (.iadd, 1) := by decide +kernel
theorem dL_law_315 : decode cL_law 315 = .ok (.iaload, 1) := by decide +kernel
theorem dL_law_316 : decode cL_law 316 = .ok (.aload_n 0, 1) := by decide +kernel
theorem dL_law_317 : decode cL_law 317 = .ok (.iload 4, 2) := by decide +kernel
theorem dL_law_319 : decode cL_law 319 = .ok (.iconst 2, 1) := by decide +kernel
theorem dL_law_320 : decode cL_law 320 = .ok (.iadd, 1) := by decide +kernel
theorem dL_law_321 : decode cL_law 321 = .ok (.iaload, 1) := by decide +kernel
theorem dL_law_322 : decode cL_law 322 = .ok (.aload_n 3, 1) := by decide +kernel
theorem dL_law_323 : decode cL_law 323 = .ok (.invokestatic 49, 3) := by decide +kernel
theorem dL_law_326 : decode cL_law 326 = .ok (.istore 5, 2) := by decide +kernel
theorem dL_law_328 : decode cL_law 328 = .ok (.aload_n 2, 1) := by decide +kernel
theorem dL_law_329 : decode cL_law 329 = .ok (.aload_n 0, 1) := by decide +kernel
theorem dL_law_330 : decode cL_law 330 = .ok (.iload 4, 2) := by decide +kernel
theorem dL_law_332 : decode cL_law 332 = .ok (.iconst 1, 1) := by decide +kernel
theorem dL_law_333 : decode cL_law 333 = .ok (.iadd, 1) := by decide +kernel
theorem dL_law_334 : decode cL_law 334 = .ok (.iaload, 1) := by decide +kernel
theorem dL_law_335 : decode cL_law 335 = .ok (.aload_n 0, 1) := by decide +kernel
theorem dL_law_336 : decode cL_law 336 = .ok (.iload 4, 2) := by decide +kernel
theorem dL_law_338 : decode cL_law 338 = .ok (.iconst 2, 1) := by decide +kernel
theorem dL_law_339 : decode cL_law 339 = .ok (.iadd, 1) := by decide +kernel
theorem dL_law_340 : decode cL_law 340 = .ok (.iaload, 1) := by decide +kernel
theorem dL_law_341 : decode cL_law 341 = .ok (.invokevirtual 54, 3) := by decide +kernel
theorem dL_law_344 : decode cL_law 344 = .ok (.istore 6, 2) := by decide +kernel
theorem dL_law_346 : decode cL_law 346 = .ok (.aload_n 2, 1) := by decide +kernel
theorem dL_law_347 : decode cL_law 347 = .ok (.invokevirtual 55, 3) := by decide +kernel
theorem dL_law_350 : decode cL_law 350 = .ok (.iload 5, 2) := by decide +kernel
theorem dL_law_352 : decode cL_law 352 = .ok (.if_icmp .eq 5, 3) := by decide +kernel
theorem dL_law_357 : decode cL_law 357 = .ok (.iload 5, 2) := by decide +kernel
theorem dL_law_359 : decode cL_law 359 = .ok (.ifCond .ne 15, 3) := by decide +kernel
theorem dL_law_374 : decode cL_law 374 = .ok (.goto 1371, 3) := by decide +kernel
