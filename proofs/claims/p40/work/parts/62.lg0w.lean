theorem mw_88 : (Cond.initialized RL) ∈ gx_G := gx_mem 88 (by decide +kernel) (by decide +kernel)
theorem mw_496 : (Cond.methodLink RL 26 yX11_sign) ∈ gx_G := gx_mem 496 (by decide +kernel) (by decide +kernel)
theorem mw_497 : (Cond.instanceMethod yX11_sign) ∈ gx_G := gx_mem 497 (by decide +kernel) (by decide +kernel)
theorem mw_498 : (Cond.selects RX11 yX11_sign yX11_sign) ∈ gx_G := gx_mem 498 (by decide +kernel) (by decide +kernel)
theorem mw_499 : (Cond.code yX11_sign cX11_sign 2 (some .int)) ∈ gx_G := gx_mem 499 (by decide +kernel) (by decide +kernel)
theorem mw_504 : (Cond.methodLink RL 31 yX11_end) ∈ gx_G := gx_mem 504 (by decide +kernel) (by decide +kernel)
theorem mw_505 : (Cond.instanceMethod yX11_end) ∈ gx_G := gx_mem 505 (by decide +kernel) (by decide +kernel)
theorem mw_506 : (Cond.selects RX11 yX11_end yX11_end) ∈ gx_G := gx_mem 506 (by decide +kernel) (by decide +kernel)
theorem mw_507 : (Cond.code yX11_end cX11_end 2 (some .boolean)) ∈ gx_G := gx_mem 507 (by decide +kernel) (by decide +kernel)
theorem mw_681 : (Cond.methodLink RL 41 yX11_water) ∈ gx_G := gx_mem 681 (by decide +kernel) (by decide +kernel)
theorem mw_682 : (Cond.instanceMethod yX11_water) ∈ gx_G := gx_mem 682 (by decide +kernel) (by decide +kernel)
theorem mw_683 : (Cond.selects RX11 yX11_water yX11_water) ∈ gx_G := gx_mem 683 (by decide +kernel) (by decide +kernel)
theorem mw_684 : (Cond.code yX11_water cX11_water 2 (some .int)) ∈ gx_G := gx_mem 684 (by decide +kernel) (by decide +kernel)
theorem mw_693 : (Cond.methodLink RL 45 yX11_rule) ∈ gx_G := gx_mem 693 (by decide +kernel) (by decide +kernel)
theorem mw_694 : (Cond.instanceMethod yX11_rule) ∈ gx_G := gx_mem 694 (by decide +kernel) (by decide +kernel)
theorem mw_695 : (Cond.selects RX11 yX11_rule yX11_rule) ∈ gx_G := gx_mem 695 (by decide +kernel) (by decide +kernel)
theorem mw_696 : (Cond.code yX11_rule cX11_rule 2 (some .int)) ∈ gx_G := gx_mem 696 (by decide +kernel) (by decide +kernel)
theorem mw_756 : (Cond.methodLink RL 58 yX11_flow) ∈ gx_G := gx_mem 756 (by decide +kernel) (by decide +kernel)
theorem mw_757 : (Cond.instanceMethod yX11_flow) ∈ gx_G := gx_mem 757 (by decide +kernel) (by decide +kernel)
theorem mw_758 : (Cond.selects RX11 yX11_flow yX11_flow) ∈ gx_G := gx_mem 758 (by decide +kernel) (by decide +kernel)
theorem mw_759 : (Cond.code yX11_flow cX11_flow 2 (some .int)) ∈ gx_G := gx_mem 759 (by decide +kernel) (by decide +kernel)
theorem mw_764 : (Cond.methodLink RL 62 yX11_plank) ∈ gx_G := gx_mem 764 (by decide +kernel) (by decide +kernel)
theorem mw_765 : (Cond.instanceMethod yX11_plank) ∈ gx_G := gx_mem 765 (by decide +kernel) (by decide +kernel)
theorem mw_766 : (Cond.selects RX11 yX11_plank yX11_plank) ∈ gx_G := gx_mem 766 (by decide +kernel) (by decide +kernel)
theorem mw_767 : (Cond.code yX11_plank cX11_plank 3 (some .boolean)) ∈ gx_G := gx_mem 767 (by decide +kernel) (by decide +kernel)
theorem mw_781 : (Cond.methodLink RL 67 yX11_sheet) ∈ gx_G := gx_mem 781 (by decide +kernel) (by decide +kernel)
theorem mw_782 : (Cond.instanceMethod yX11_sheet) ∈ gx_G := gx_mem 782 (by decide +kernel) (by decide +kernel)
theorem mw_783 : (Cond.selects RX11 yX11_sheet yX11_sheet) ∈ gx_G := gx_mem 783 (by decide +kernel) (by decide +kernel)
theorem mw_784 : (Cond.code yX11_sheet cX11_sheet 9 (some .int)) ∈ gx_G := gx_mem 784 (by decide +kernel) (by decide +kernel)
theorem mw_1299 : (Cond.methodLink RL 49 yL_place) ∈ gx_G := gx_mem 1299 (by decide +kernel) (by decide +kernel)
theorem mw_1300 : (Cond.static yL_place) ∈ gx_G := gx_mem 1300 (by decide +kernel) (by decide +kernel)
theorem mw_1301 : (Cond.codeWith yL_place cL_place 5 (some .int) [(0, 10, 13, 13)]) ∈ gx_G := gx_mem 1301 (by decide +kernel) (by decide +kernel)
theorem mw_1378 : (Cond.methodLink RL 55 yL_of) ∈ gx_G := gx_mem 1378 (by decide +kernel) (by decide +kernel)
theorem mw_1379 : (Cond.static yL_of) ∈ gx_G := gx_mem 1379 (by decide +kernel) (by decide +kernel)
theorem mw_1380 : (Cond.codeWith yL_of cL_of 5 (some .int) [(0, 10, 13, 13)]) ∈ gx_G := gx_mem 1380 (by decide +kernel) (by decide +kernel)
theorem mw_1595 : (Cond.methodLink RL 30 yX12_sign) ∈ gx_G := gx_mem 1595 (by decide +kernel) (by decide +kernel)
theorem mw_1596 : (Cond.instanceMethod yX12_sign) ∈ gx_G := gx_mem 1596 (by decide +kernel) (by decide +kernel)
theorem mw_1597 : (Cond.selects RX12 yX12_sign yX12_sign) ∈ gx_G := gx_mem 1597 (by decide +kernel) (by decide +kernel)
theorem mw_1598 : (Cond.code yX12_sign cX12_sign 3 (some .int)) ∈ gx_G := gx_mem 1598 (by decide +kernel) (by decide +kernel)
theorem mw_1599 : (Cond.methodLink RL 35 yX12_end) ∈ gx_G := gx_mem 1599 (by decide +kernel) (by decide +kernel)
theorem mw_1600 : (Cond.instanceMethod yX12_end) ∈ gx_G := gx_mem 1600 (by decide +kernel) (by decide +kernel)
theorem mw_1601 : (Cond.selects RX12 yX12_end yX12_end) ∈ gx_G := gx_mem 1601 (by decide +kernel) (by decide +kernel)
theorem mw_1602 : (Cond.code yX12_end cX12_end 2 (some .boolean)) ∈ gx_G := gx_mem 1602 (by decide +kernel) (by decide +kernel)
theorem mw_1746 : (Cond.methodLink RL 44 yX12_water) ∈ gx_G := gx_mem 1746 (by decide +kernel) (by decide +kernel)
theorem mw_1747 : (Cond.instanceMethod yX12_water) ∈ gx_G := gx_mem 1747 (by decide +kernel) (by decide +kernel)
theorem mw_1748 : (Cond.selects RX12 yX12_water yX12_water) ∈ gx_G := gx_mem 1748 (by decide +kernel) (by decide +kernel)
theorem mw_1749 : (Cond.code yX12_water cX12_water 5 (some .int)) ∈ gx_G := gx_mem 1749 (by decide +kernel) (by decide +kernel)
theorem mw_1751 : (Cond.methodLink RL 48 yX12_rule) ∈ gx_G := gx_mem 1751 (by decide +kernel) (by decide +kernel)
theorem mw_1752 : (Cond.instanceMethod yX12_rule) ∈ gx_G := gx_mem 1752 (by decide +kernel) (by decide +kernel)
theorem mw_1753 : (Cond.selects RX12 yX12_rule yX12_rule) ∈ gx_G := gx_mem 1753 (by decide +kernel) (by decide +kernel)
theorem mw_1754 : (Cond.code yX12_rule cX12_rule 5 (some .int)) ∈ gx_G := gx_mem 1754 (by decide +kernel) (by decide +kernel)
theorem mw_1781 : (Cond.methodLink RL 54 yX12_place) ∈ gx_G := gx_mem 1781 (by decide +kernel) (by decide +kernel)
theorem mw_1782 : (Cond.instanceMethod yX12_place) ∈ gx_G := gx_mem 1782 (by decide +kernel) (by decide +kernel)
theorem mw_1783 : (Cond.selects RX12 yX12_place yX12_place) ∈ gx_G := gx_mem 1783 (by decide +kernel) (by decide +kernel)
theorem mw_1784 : (Cond.code yX12_place cX12_place 5 (some .int)) ∈ gx_G := gx_mem 1784 (by decide +kernel) (by decide +kernel)
theorem mw_1794 : (Cond.methodLink RL 57 yX12_of) ∈ gx_G := gx_mem 1794 (by decide +kernel) (by decide +kernel)
theorem mw_1795 : (Cond.instanceMethod yX12_of) ∈ gx_G := gx_mem 1795 (by decide +kernel) (by decide +kernel)
theorem mw_1796 : (Cond.selects RX12 yX12_of yX12_of) ∈ gx_G := gx_mem 1796 (by decide +kernel) (by decide +kernel)
theorem mw_1797 : (Cond.code yX12_of cX12_of 4 (some .int)) ∈ gx_G := gx_mem 1797 (by decide +kernel) (by decide +kernel)
theorem mw_1804 : (Cond.methodLink RL 61 yX12_flow) ∈ gx_G := gx_mem 1804 (by decide +kernel) (by decide +kernel)
theorem mw_1805 : (Cond.instanceMethod yX12_flow) ∈ gx_G := gx_mem 1805 (by decide +kernel) (by decide +kernel)
theorem mw_1806 : (Cond.selects RX12 yX12_flow yX12_flow) ∈ gx_G := gx_mem 1806 (by decide +kernel) (by decide +kernel)
theorem mw_1807 : (Cond.code yX12_flow cX12_flow 2 (some .int)) ∈ gx_G := gx_mem 1807 (by decide +kernel) (by decide +kernel)
theorem mw_1820 : (Cond.methodLink RL 66 yX12_plank) ∈ gx_G := gx_mem 1820 (by decide +kernel) (by decide +kernel)
theorem mw_1821 : (Cond.instanceMethod yX12_plank) ∈ gx_G := gx_mem 1821 (by decide +kernel) (by decide +kernel)
theorem mw_1822 : (Cond.selects RX12 yX12_plank yX12_plank) ∈ gx_G := gx_mem 1822 (by decide +kernel) (by decide +kernel)
theorem mw_1823 : (Cond.code yX12_plank cX12_plank 3 (some .boolean)) ∈ gx_G := gx_mem 1823 (by decide +kernel) (by decide +kernel)
theorem mw_1836 : (Cond.methodLink RL 71 yX12_sheet) ∈ gx_G := gx_mem 1836 (by decide +kernel) (by decide +kernel)
theorem mw_1837 : (Cond.instanceMethod yX12_sheet) ∈ gx_G := gx_mem 1837 (by decide +kernel) (by decide +kernel)
theorem mw_1838 : (Cond.selects RX12 yX12_sheet yX12_sheet) ∈ gx_G := gx_mem 1838 (by decide +kernel) (by decide +kernel)
theorem mw_1839 : (Cond.code yX12_sheet cX12_sheet 9 (some .int)) ∈ gx_G := gx_mem 1839 (by decide +kernel) (by decide +kernel)
theorem cw_L_26 : gx_Wv RL 26 yX11_sign cX11_sign 2 (some .int) 1 := ⟨⟨mw_496, mw_497, mw_498, mw_89, mw_499⟩, by decide +kernel⟩
theorem cw_L_30 : gx_Wv RL 30 yX12_sign cX12_sign 3 (some .int) 1 := ⟨⟨mw_1595, mw_1596, mw_1597, mw_101, mw_1598⟩, by decide +kernel⟩
theorem cw_L_31 : gx_Wv RL 31 yX11_end cX11_end 2 (some .boolean) 1 := ⟨⟨mw_504, mw_505, mw_506, mw_89, mw_507⟩, by decide +kernel⟩
theorem cw_L_35 : gx_Wv RL 35 yX12_end cX12_end 2 (some .boolean) 1 := ⟨⟨mw_1599, mw_1600, mw_1601, mw_101, mw_1602⟩, by decide +kernel⟩
theorem cw_L_41 : gx_Wv RL 41 yX11_water cX11_water 2 (some .int) 0 := ⟨⟨mw_681, mw_682, mw_683, mw_89, mw_684⟩, by decide +kernel⟩
theorem cw_L_44 : gx_Wv RL 44 yX12_water cX12_water 5 (some .int) 0 := ⟨⟨mw_1746, mw_1747, mw_1748, mw_101, mw_1749⟩, by decide +kernel⟩
theorem cw_L_45 : gx_Wv RL 45 yX11_rule cX11_rule 2 (some .int) 0 := ⟨⟨mw_693, mw_694, mw_695, mw_89, mw_696⟩, by decide +kernel⟩
theorem cw_L_48 : gx_Wv RL 48 yX12_rule cX12_rule 5 (some .int) 0 := ⟨⟨mw_1751, mw_1752, mw_1753, mw_101, mw_1754⟩, by decide +kernel⟩
theorem cw_L_49 : gx_Wsw RL 49 yL_place cL_place 5 [(0, 10, 13, 13)] 4 := ⟨⟨mw_1299, mw_1300, mw_88, mw_1301⟩, by decide +kernel⟩
theorem cw_L_54 : gx_Wv RL 54 yX12_place cX12_place 5 (some .int) 2 := ⟨⟨mw_1781, mw_1782, mw_1783, mw_101, mw_1784⟩, by decide +kernel⟩
theorem cw_L_55 : gx_Wsw RL 55 yL_of cL_of 5 [(0, 10, 13, 13)] 4 := ⟨⟨mw_1378, mw_1379, mw_88, mw_1380⟩, by decide +kernel⟩
theorem cw_L_57 : gx_Wv RL 57 yX12_of cX12_of 4 (some .int) 2 := ⟨⟨mw_1794, mw_1795, mw_1796, mw_101, mw_1797⟩, by decide +kernel⟩
theorem cw_L_58 : gx_Wv RL 58 yX11_flow cX11_flow 2 (some .int) 1 := ⟨⟨mw_756, mw_757, mw_758, mw_89, mw_759⟩, by decide +kernel⟩
theorem cw_L_61 : gx_Wv RL 61 yX12_flow cX12_flow 2 (some .int) 1 := ⟨⟨mw_1804, mw_1805, mw_1806, mw_101, mw_1807⟩, by decide +kernel⟩
theorem cw_L_62 : gx_Wv RL 62 yX11_plank cX11_plank 3 (some .boolean) 2 := ⟨⟨mw_764, mw_765, mw_766, mw_89, mw_767⟩, by decide +kernel⟩
theorem cw_L_66 : gx_Wv RL 66 yX12_plank cX12_plank 3 (some .boolean) 2 := ⟨⟨mw_1820, mw_1821, mw_1822, mw_101, mw_1823⟩, by decide +kernel⟩
theorem cw_L_67 : gx_Wv RL 67 yX11_sheet cX11_sheet 9 (some .int) 4 := ⟨⟨mw_781, mw_782, mw_783, mw_89, mw_784⟩, by decide +kernel⟩
theorem cw_L_71 : gx_Wv RL 71 yX12_sheet cX12_sheet 9 (some .int) 4 := ⟨⟨mw_1836, mw_1837, mw_1838, mw_101, mw_1839⟩, by decide +kernel⟩
theorem dL_law_220 : decode cL_law 220 = .ok (.aload_n 1, 1) := by decide +kernel
theorem dL_law_221 : decode cL_law 221 = .ok (.aload_n 0, 1) := by decide +kernel
theorem dL_law_222 : decode cL_law 222 = .ok (.iload 4, 2) := by decide +kernel
theorem dL_law_224 : decode cL_law 224 = .ok (.iconst 1, 1) := by decide +kernel
theorem dL_law_225 : decode cL_law 225 = .ok (.iadd, 1) := by decide +kernel
theorem dL_law_226 : decode cL_law 226 = .ok (.iaload, 1) := by decide +kernel
theorem dL_law_227 : decode cL_law 227 = .ok (.invokevirtual 26, 3) := by decide +kernel
theorem dL_law_230 : decode cL_law 230 = .ok (.pop, 1) := by decide +kernel
theorem dL_law_231 : decode cL_law 231 = .ok (.aload_n 2, 1) := by decide +kernel
theorem dL_law_232 : decode cL_law 232 = .ok (.aload_n 0, 1) := by decide +kernel
theorem dL_law_233 : decode cL_law 233 = .ok (.iload 4, 2) := by decide +kernel
theorem dL_law_235 : decode cL_law 235 = .ok (.iconst 1, 1) := by decide +kernel
theorem dL_law_236 : decode cL_law 236 = .ok (.iadd, 1) := by decide +kernel
theorem dL_law_237 : decode cL_law 237 = .ok (.iaload, 1) := by decide +kernel
theorem dL_law_238 : decode cL_law 238 = .ok (.invokevirtual 30, 3) := by decide +kernel
theorem dL_law_241 : decode cL_law 241 = .ok (.pop, 1) := by decide +kernel
theorem dL_law_242 : decode cL_law 242 = .ok (.goto 1420, 3) := by decide +kernel
theorem dL_law_245 : decode cL_law 245 = .ok (.aload_n 1, 1) := by decide +kernel
theorem dL_law_246 : decode cL_law 246 = .ok (.aload_n 0, 1) := by decide +kernel
theorem dL_law_247 : decode cL_law 247 = .ok (.iload 4, 2) := by decide +kernel
theorem dL_law_249 : decode cL_law 249 = .ok (.iconst 1, 1) := by decide +kernel
theorem dL_law_250 : decode cL_law 250 = .ok (.iadd, 1) := by decide +kernel
theorem dL_law_251 : decode cL_law 251 = .ok (.iaload, 1) := by decide +kernel
theorem dL_law_252 : decode cL_law 252 = .ok (.invokevirtual 31, 3) := by decide +kernel
theorem dL_law_255 : decode cL_law 255 = .ok (.pop, 1) := by decide +kernel
theorem dL_law_256 : decode cL_law 256 = .ok (.aload_n 2, 1) := by decide +kernel
theorem dL_law_257 : decode cL_law 257 = .ok (.aload_n 0, 1) := by decide +kernel
theorem dL_law_258 : decode cL_law 258 = .ok (.iload 4, 2) := by decide +kernel
theorem dL_law_260 : decode cL_law 260 = .ok (.iconst 1, 1) := by decide +kernel
theorem dL_law_261 : decode cL_law 261 = .ok (.iadd, 1) := by decide +kernel
theorem dL_law_262 : decode cL_law 262 = .ok (.iaload, 1) := by decide +kernel
theorem dL_law_263 : decode cL_law 263 = .ok (.invokevirtual 35, 3) := by decide +kernel
theorem dL_law_266 : decode cL_law 266 = .ok (.pop, 1) := by decide +kernel
theorem dL_law_267 : decode cL_law 267 = .ok (.goto 1395, 3) := by decide +kernel
theorem dL_law_283 : decode cL_law 283 = .ok (.aload_n 1, 1) := by decide +kernel
theorem dL_law_284 : decode cL_law 284 = .ok (.invokevirtual 41, 3) := by decide +kernel
theorem dL_law_287 : decode cL_law 287 = .ok (.pop, 1) := by decide +kernel
theorem dL_law_288 : decode cL_law 288 = .ok (.aload_n 2, 1) := by decide +kernel
theorem dL_law_289 : decode cL_law 289 = .ok (.invokevirtual 44, 3) := by decide +kernel
theorem dL_law_292 : decode cL_law 292 = .ok (.pop, 1) := by decide +kernel
theorem dL_law_293 : decode cL_law 293 = .ok (.goto 1369, 3) := by decide +kernel
theorem dL_law_296 : decode cL_law 296 = .ok (.aload_n 1, 1) := by decide +kernel
theorem dL_law_297 : decode cL_law 297 = .ok (.invokevirtual 45, 3) := by decide +kernel
theorem dL_law_300 : decode cL_law 300 = .ok (.pop, 1) := by decide +kernel
theorem dL_law_301 : decode cL_law 301 = .ok (.aload_n 2, 1) := by decide +kernel
theorem dL_law_302 : decode cL_law 302 = .ok (.invokevirtual 48, 3) := by decide +kernel
theorem dL_law_305 : decode cL_law 305 = .ok (.pop, 1) := by decide +kernel
theorem dL_law_306 : decode cL_law 306 = .ok (.goto 1356, 3) := by decide +kernel
theorem dL_law_309 : decode cL_law 309 = .ok (.aload_n 1, 1) := by decide +kernel
theorem dL_law_310 : decode cL_law 310 = .ok (.aload_n 0, 1) := by decide +kernel
theorem dL_law_311 : decode cL_law 311 = .ok (.iload 4, 2) := by decide +kernel
theorem dL_law_313 : decode cL_law 313 = .ok (.iconst 1, 1) := by decide +kernel
theorem dL_law_314 : decode cL_law 314 = .ok (.iadd, 1) := by decide +kernel
theorem dL_law_315 : decode cL_law 315 = .ok (.iaload, 1) := by decide +kernel
theorem dL_law_316 : decode cL_law 316 = .ok (.aload_n 0, 1) := by decide +kernel
theorem dL_law_317 : decode cL_law 317 = .ok (.iload 4, 2) := by decide +kernel
theorem dL_law_319 : decode cL_law 319 = .ok (.iconst 2, 1) := by decide +kernel
theorem dL_law_320 : decode cL_law 320 = .ok (.iadd, 1) := by decide +kernel
theorem dL_law_321 : decode cL_law 321 = .ok (.iaload, 1) := by decide +kernel
theorem dL_law_322 : decode cL_law 322 = .ok (.aload_n 3, 1) := by decide +kernel
theorem dL_law_323 : decode cL_law 323 = .ok (.invokestatic 49, 3) := by decide +kernel
theorem dL_law_326 : decode cL_law 326 = .ok (.istore 5, 2) := by decide +kernel
theorem dL_law_328 : decode cL_law 328 = .ok (.aload_n 2, 1) := by decide +kernel
theorem dL_law_329 : decode cL_law 329 = .ok (.aload_n 0, 1) := by decide +kernel
theorem dL_law_330 : decode cL_law 330 = .ok (.iload 4, 2) := by decide +kernel
theorem dL_law_332 : decode cL_law 332 = .ok (.iconst 1, 1) := by decide +kernel
theorem dL_law_333 : decode cL_law 333 = .ok (.iadd, 1) := by decide +kernel
theorem dL_law_334 : decode cL_law 334 = .ok (.iaload, 1) := by decide +kernel
theorem dL_law_335 : decode cL_law 335 = .ok (.aload_n 0, 1) := by decide +kernel
theorem dL_law_336 : decode cL_law 336 = .ok (.iload 4, 2) := by decide +kernel
theorem dL_law_338 : decode cL_law 338 = .ok (.iconst 2, 1) := by decide +kernel
theorem dL_law_339 : decode cL_law 339 = .ok (.iadd, 1) := by decide +kernel
theorem dL_law_340 : decode cL_law 340 = .ok (.iaload, 1) := by decide +kernel
theorem dL_law_341 : decode cL_law 341 = .ok (.invokevirtual 54, 3) := by decide +kernel
theorem dL_law_344 : decode cL_law 344 = .ok (.istore 6, 2) := by decide +kernel
theorem dL_law_346 : decode cL_law 346 = .ok (.goto 1316, 3) := by decide +kernel
theorem dL_law_349 : decode cL_law 349 = .ok (.aload_n 1, 1) := by decide +kernel
theorem dL_law_350 : decode cL_law 350 = .ok (.aload_n 0, 1) := by decide +kernel
theorem dL_law_351 : decode cL_law 351 = .ok (.iload 4, 2) := by decide +kernel
theorem dL_law_353 : decode cL_law 353 = .ok (.iconst 1, 1) := by decide +kernel
theorem dL_law_354 : decode cL_law 354 = .ok (.iadd, 1) := by decide +kernel
theorem dL_law_355 : decode cL_law 355 = .ok (.iaload, 1) := by decide +kernel
theorem dL_law_356 : decode cL_law 356 = .ok (.aload_n 0, 1) := by decide +kernel
theorem dL_law_357 : decode cL_law 357 = .ok (.iload 4, 2) := by decide +kernel
theorem dL_law_359 : decode cL_law 359 = .ok (.iconst 2, 1) := by decide +kernel
theorem dL_law_360 : decode cL_law 360 = .ok (.iadd, 1) := by decide +kernel
theorem dL_law_361 : decode cL_law 361 = .ok (.iaload, 1) := by decide +kernel
theorem dL_law_362 : decode cL_law 362 = .ok (.aload_n 3, 1) := by decide +kernel
theorem dL_law_363 : decode cL_law 363 = .ok (.invokestatic 55, 3) := by decide +kernel
theorem dL_law_366 : decode cL_law 366 = .ok (.istore 5, 2) := by decide +kernel
theorem dL_law_368 : decode cL_law 368 = .ok (.aload_n 2, 1) := by decide +kernel
theorem dL_law_369 : decode cL_law 369 = .ok (.aload_n 0, 1) := by decide +kernel
theorem dL_law_370 : decode cL_law 370 = .ok (.iload 4, 2) := by decide +kernel
theorem dL_law_372 : decode cL_law 372 = .ok (.iconst 1, 1) := by decide +kernel
theorem dL_law_373 : decode cL_law 373 = .ok (.iadd, 1) := by decide +kernel
theorem dL_law_374 : decode cL_law 374 = .ok (.iaload, 1) := by decide +kernel
theorem dL_law_375 : decode cL_law 375 = .ok (.aload_n 0, 1) := by decide +kernel
theorem dL_law_376 : decode cL_law 376 = .ok (.iload 4, 2) := by decide +kernel
theorem dL_law_378 : decode cL_law 378 = .ok (.iconst 2, 1) := by decide +kernel
theorem dL_law_379 : decode cL_law 379 = .ok (.iadd, 1) := by decide +kernel
theorem dL_law_380 : decode cL_law 380 = .ok (.iaload, 1) := by decide +kernel
theorem dL_law_381 : decode cL_law 381 = .ok (.invokevirtual 57, 3) := by decide +kernel
theorem dL_law_384 : decode cL_law 384 = .ok (.istore 6, 2) := by decide +kernel
theorem dL_law_386 : decode cL_law 386 = .ok (.goto 1276, 3) := by decide +kernel
theorem dL_law_389 : decode cL_law 389 = .ok (.aload_n 1, 1) := by decide +kernel
theorem dL_law_390 : decode cL_law 390 = .ok (.aload_n 0, 1) := by decide +kernel
theorem dL_law_391 : decode cL_law 391 = .ok (.iload 4, 2) := by decide +kernel
theorem dL_law_393 : decode cL_law 393 = .ok (.iconst 1, 1) := by decide +kernel
theorem dL_law_394 : decode cL_law 394 = .ok (.iadd, 1) := by decide +kernel
theorem dL_law_395 : decode cL_law 395 = .ok (.iaload, 1) := by decide +kernel
theorem dL_law_396 : decode cL_law 396 = .ok (.invokevirtual 58, 3) := by decide +kernel
theorem dL_law_399 : decode cL_law 399 = .ok (.pop, 1) := by decide +kernel
theorem dL_law_400 : decode cL_law 400 = .ok (.aload_n 2, 1) := by decide +kernel
theorem dL_law_401 : decode cL_law 401 = .ok (.aload_n 0, 1) := by decide +kernel
theorem dL_law_402 : decode cL_law 402 = .ok (.iload 4, 2) := by decide +kernel
theorem dL_law_404 : decode cL_law 404 = .ok (.iconst 1, 1) := by decide +kernel
theorem dL_law_405 : decode cL_law 405 = .ok (.iadd, 1) := by decide +kernel
theorem dL_law_406 : decode cL_law 406 = .ok (.iaload, 1) := by decide +kernel
theorem dL_law_407 : decode cL_law 407 = .ok (.invokevirtual 61, 3) := by decide +kernel
theorem dL_law_410 : decode cL_law 410 = .ok (.pop, 1) := by decide +kernel
theorem dL_law_411 : decode cL_law 411 = .ok (.goto 1251, 3) := by decide +kernel
theorem dL_law_414 : decode cL_law 414 = .ok (.aload_n 1, 1) := by decide +kernel
theorem dL_law_415 : decode cL_law 415 = .ok (.aload_n 0, 1) := by decide +kernel
theorem dL_law_416 : decode cL_law 416 = .ok (.iload 4, 2) := by decide +kernel
theorem dL_law_418 : decode cL_law 418 = .ok (.iconst 1, 1) := by decide +kernel
theorem dL_law_419 : decode cL_law 419 = .ok (.iadd, 1) := by decide +kernel
theorem dL_law_420 : decode cL_law 420 = .ok (.iaload, 1) := by decide +kernel
theorem dL_law_421 : decode cL_law 421 = .ok (.aload_n 0, 1) := by decide +kernel
theorem dL_law_422 : decode cL_law 422 = .ok (.iload 4, 2) := by decide +kernel
theorem dL_law_424 : decode cL_law 424 = .ok (.iconst 2, 1) := by decide +kernel
theorem dL_law_425 : decode cL_law 425 = .ok (.iadd, 1) := by decide +kernel
theorem dL_law_426 : decode cL_law 426 = .ok (.iaload, 1) := by decide +kernel
theorem dL_law_427 : decode cL_law 427 = .ok (.invokevirtual 62, 3) := by decide +kernel
theorem dL_law_430 : decode cL_law 430 = .ok (.pop, 1) := by decide +kernel
theorem dL_law_431 : decode cL_law 431 = .ok (.aload_n 2, 1) := by decide +kernel
theorem dL_law_432 : decode cL_law 432 = .ok (.aload_n 0, 1) := by decide +kernel
theorem dL_law_433 : decode cL_law 433 = .ok (.iload 4, 2) := by decide +kernel
theorem dL_law_435 : decode cL_law 435 = .ok (.iconst 1, 1) := by decide +kernel
theorem dL_law_436 : decode cL_law 436 = .ok (.iadd, 1) := by decide +kernel
theorem dL_law_437 : decode cL_law 437 = .ok (.iaload, 1) := by decide +kernel
theorem dL_law_438 : decode cL_law 438 = .ok (.aload_n 0, 1) := by decide +kernel
theorem dL_law_439 : decode cL_law 439 = .ok (.iload 4, 2) := by decide +kernel
theorem dL_law_441 : decode cL_law 441 = .ok (.iconst 2, 1) := by decide +kernel
theorem dL_law_442 : decode cL_law 442 = .ok (.iadd, 1) := by decide +kernel
theorem dL_law_443 : decode cL_law 443 = .ok (.iaload, 1) := by decide +kernel
theorem dL_law_444 : decode cL_law 444 = .ok (.invokevirtual 66, 3) := by decide +kernel
theorem dL_law_447 : decode cL_law 447 = .ok (.pop, 1) := by decide +kernel
theorem dL_law_448 : decode cL_law 448 = .ok (.goto 1214, 3) := by decide +kernel
theorem dL_law_451 : decode cL_law 451 = .ok (.aload_n 1, 1) := by decide +kernel
theorem dL_law_452 : decode cL_law 452 = .ok (.aload_n 0, 1) := by decide +kernel
theorem dL_law_453 : decode cL_law 453 = .ok (.iload 4, 2) := by decide +kernel
theorem dL_law_455 : decode cL_law 455 = .ok (.iconst 1, 1) := by decide +kernel
theorem dL_law_456 : decode cL_law 456 = .ok (.iadd, 1) := by decide +kernel
theorem dL_law_457 : decode cL_law 457 = .ok (.iaload, 1) := by decide +kernel
theorem dL_law_458 : decode cL_law 458 = .ok (.aload_n 0, 1) := by decide +kernel
theorem dL_law_459 : decode cL_law 459 = .ok (.iload 4, 2) := by decide +kernel
theorem dL_law_461 : decode cL_law 461 = .ok (.iconst 2, 1) := by decide +kernel
theorem dL_law_462 : decode cL_law 462 = .ok (.iadd, 1) := by decide +kernel
theorem dL_law_463 : decode cL_law 463 = .ok (.iaload, 1) := by decide +kernel
theorem dL_law_464 : decode cL_law 464 = .ok (.aload_n 0, 1) := by decide +kernel
theorem dL_law_465 : decode cL_law 465 = .ok (.iload 4, 2) := by decide +kernel
theorem dL_law_467 : decode cL_law 467 = .ok (.iconst 3, 1) := by decide +kernel
theorem dL_law_468 : decode cL_law 468 = .ok (.iadd, 1) := by decide +kernel
theorem dL_law_469 : decode cL_law 469 = .ok (.iaload, 1) := by decide +kernel
theorem dL_law_470 : decode cL_law 470 = .ok (.aload_n 0, 1) := by decide +kernel
theorem dL_law_471 : decode cL_law 471 = .ok (.iload 4, 2) := by decide +kernel
theorem dL_law_473 : decode cL_law 473 = .ok (.iconst 4, 1) := by decide +kernel
theorem dL_law_474 : decode cL_law 474 = .ok (.iadd, 1) := by decide +kernel
theorem dL_law_475 : decode cL_law 475 = .ok (.iaload, 1) := by decide +kernel
theorem dL_law_476 : decode cL_law 476 = .ok (.invokevirtual 67, 3) := by decide +kernel
theorem dL_law_479 : decode cL_law 479 = .ok (.pop, 1) := by decide +kernel
theorem dL_law_480 : decode cL_law 480 = .ok (.aload_n 2, 1) := by decide +kernel
theorem dL_law_481 : decode cL_law 481 = .ok (.aload_n 0, 1) := by decide +kernel
theorem dL_law_482 : decode cL_law 482 = .ok (.iload 4, 2) := by decide +kernel
theorem dL_law_484 : decode cL_law 484 = .ok (.iconst 1, 1) := by decide +kernel
theorem dL_law_485 : decode cL_law 485 = .ok (.iadd, 1) := by decide +kernel
theorem dL_law_486 : decode cL_law 486 = .ok (.iaload, 1) := by decide +kernel
theorem dL_law_487 : decode cL_law 487 = .ok (.aload_n 0, 1) := by decide +kernel
theorem dL_law_488 : decode cL_law 488 = .ok (.iload 4, 2) := by decide +kernel
theorem dL_law_490 : decode cL_law 490 = .ok (.iconst 2, 1) := by decide +kernel
theorem dL_law_491 : decode cL_law 491 = .ok (.iadd, 1) := by decide +kernel
theorem dL_law_492 : decode cL_law 492 = .ok (.iaload, 1) := by decide +kernel
theorem dL_law_493 : decode cL_law 493 = .ok (.aload_n 0, 1) := by decide +kernel
theorem dL_law_494 : decode cL_law 494 = .ok (.iload 4, 2) := by decide +kernel
theorem dL_law_496 : decode cL_law 496 = .ok (.iconst 3, 1) := by decide +kernel
theorem dL_law_497 : decode cL_law 497 = .ok (.iadd, 1) := by decide +kernel
theorem dL_law_498 : decode cL_law 498 = .ok (.iaload, 1) := by decide +kernel
theorem dL_law_499 : decode cL_law 499 = .ok (.aload_n 0, 1) := by decide +kernel
theorem dL_law_500 : decode cL_law 500 = .ok (.iload 4, 2) := by decide +kernel
theorem dL_law_502 : decode cL_law 502 = .ok (.iconst 4, 1) := by decide +kernel
theorem dL_law_503 : decode cL_law 503 = .ok (.iadd, 1) := by decide +kernel
theorem dL_law_504 : decode cL_law 504 = .ok (.iaload, 1) := by decide +kernel
theorem dL_law_505 : decode cL_law 505 = .ok (.invokevirtual 71, 3) := by decide +kernel
theorem dL_law_508 : decode cL_law 508 = .ok (.pop, 1) := by decide +kernel
theorem dL_law_509 : decode cL_law 509 = .ok (.goto 1153, 3) := by decide +kernel
