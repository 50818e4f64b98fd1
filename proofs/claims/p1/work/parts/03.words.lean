theorem cl_1 : gx_C 1 RX0 TX0 4 := ⟨rfl, gx_mems _ [341, 343, 345, 347] (by decide +kernel) (by decide +kernel), nmX0, tyX0, tyX0_ok⟩
theorem cl_2 : gx_C 2 RX1 TX1 10 := ⟨rfl, gx_mems _ [387, 389, 391, 393, 395, 397, 399, 401, 403, 405] (by decide +kernel) (by decide +kernel), nmX1, tyX1, tyX1_ok⟩
theorem cl_3 : gx_C 3 RX2 TX2 5 := ⟨rfl, gx_mems _ [247, 249, 251, 253, 255] (by decide +kernel) (by decide +kernel), nmX2, tyX2, tyX2_ok⟩
theorem cl_4 : gx_C 4 RX3 TX3 3 := ⟨rfl, gx_mems _ [323, 325, 327] (by decide +kernel) (by decide +kernel), nmX3, tyX3, tyX3_ok⟩
theorem cl_5 : gx_C 5 RX4 TX4 2 := ⟨rfl, gx_mems _ [359, 361] (by decide +kernel) (by decide +kernel), nmX4, tyX4, tyX4_ok⟩
theorem cl_6 : gx_C 6 RX5 TX5 11 := ⟨rfl, gx_mems _ [213, 215, 217, 219, 221, 223, 225, 227, 229, 231, 233] (by decide +kernel) (by decide +kernel), nmX5, tyX5, tyX5_ok⟩
theorem cl_7 : gx_C 7 RX6 TX6 11 := ⟨rfl, gx_mems _ [287, 289, 291, 293, 295, 297, 299, 301, 303, 305, 307] (by decide +kernel) (by decide +kernel), nmX6, tyX6, tyX6_ok⟩
theorem cl_8 : gx_C 8 RX7 TX7 3 := ⟨rfl, gx_mems _ [134, 136, 138] (by decide +kernel) (by decide +kernel), nmX7, tyX7, tyX7_ok⟩
theorem cl_9 : gx_C 9 RX8 TX8 9 := ⟨rfl, gx_mems _ [162, 164, 166, 168, 170, 172, 174, 176, 178] (by decide +kernel) (by decide +kernel), nmX8, tyX8, tyX8_ok⟩
theorem cl_10 : gx_C 10 RX9 TX9 9 := ⟨rfl, gx_mems _ [427, 429, 431, 433, 435, 437, 439, 441, 443] (by decide +kernel) (by decide +kernel), nmX9, tyX9, tyX9_ok⟩
theorem cl_11 : gx_C 11 RX10 TX10 2 := ⟨rfl, gx_mems _ [189, 191] (by decide +kernel) (by decide +kernel), nmX10, tyX10, tyX10_ok⟩
theorem cl_12 : gx_C 12 RX11 TX11 16 := ⟨rfl, gx_mems _ [463, 465, 467, 469, 471, 473, 475, 477, 479, 481, 483, 485, 487, 489, 491, 493] (by decide +kernel) (by decide +kernel), nmX11, tyX11, tyX11_ok⟩
theorem cl_13 : gx_C 13 RX12 TX12 60 := ⟨rfl, gx_mems _ [1474, 1476, 1478, 1480, 1482, 1484, 1486, 1488, 1490, 1492, 1494, 1496, 1498, 1500, 1502, 1504, 1506, 1508, 1510, 1512, 1514, 1516, 1518, 1520, 1522, 1524, 1526, 1528, 1530, 1532, 1534, 1536, 1538, 1540, 1542, 1544, 1546, 1548, 1550, 1552, 1554, 1556, 1558, 1560, 1562, 1564, 1566, 1568, 1570, 1572, 1574, 1576, 1578, 1580, 1582, 1584, 1586, 1588, 1590, 1592] (by decide +kernel) (by decide +kernel), nmX12, tyX12, tyX12_ok⟩
theorem mw_0 : (Cond.selects RX8 yX8_clear yX8_clear) ∈ gx_G := gx_mem 0 (by decide +kernel) (by decide +kernel)
theorem mw_8 : (Cond.selects RX5 yX5_clear yX5_clear) ∈ gx_G := gx_mem 8 (by decide +kernel) (by decide +kernel)
theorem mw_9 : (Cond.selects RX5 yX5_addFact yX5_addFact) ∈ gx_G := gx_mem 9 (by decide +kernel) (by decide +kernel)
theorem mw_10 : (Cond.selects RX5 yX5_addStep yX5_addStep) ∈ gx_G := gx_mem 10 (by decide +kernel) (by decide +kernel)
theorem mw_19 : (Cond.selects RX1 yX1_flowIn yX1_flowIn) ∈ gx_G := gx_mem 19 (by decide +kernel) (by decide +kernel)
theorem mw_90 : (Cond.initialized RX7) ∈ gx_G := gx_mem 90 (by decide +kernel) (by decide +kernel)
theorem mw_91 : (Cond.initialized RX8) ∈ gx_G := gx_mem 91 (by decide +kernel) (by decide +kernel)
theorem mw_92 : (Cond.initialized RX10) ∈ gx_G := gx_mem 92 (by decide +kernel) (by decide +kernel)
theorem mw_93 : (Cond.initialized RX5) ∈ gx_G := gx_mem 93 (by decide +kernel) (by decide +kernel)
theorem mw_95 : (Cond.initialized RX6) ∈ gx_G := gx_mem 95 (by decide +kernel) (by decide +kernel)
theorem mw_99 : (Cond.initialized RX1) ∈ gx_G := gx_mem 99 (by decide +kernel) (by decide +kernel)
theorem mw_102 : (Cond.initialized RJ9) ∈ gx_G := gx_mem 102 (by decide +kernel) (by decide +kernel)
theorem mw_129 : (Cond.fieldLink RX7 11 "DownTheGutter$Signs" "signs" "[I") ∈ gx_G := gx_mem 129 (by decide +kernel) (by decide +kernel)
theorem mw_130 : (Cond.fieldLink RX7 25 "DownTheGutter$Signs" "seen" "I") ∈ gx_G := gx_mem 130 (by decide +kernel) (by decide +kernel)
theorem mw_131 : (Cond.fieldLink RX7 15 "DownTheGutter$Signs" "length" "I") ∈ gx_G := gx_mem 131 (by decide +kernel) (by decide +kernel)
theorem mw_133 : (Cond.fieldLink RX10 33 "DownTheGutter$Signs" "length" "I") ∈ gx_G := gx_mem 133 (by decide +kernel) (by decide +kernel)
theorem mw_148 : (Cond.fieldLink RX8 9 "DownTheGutter$Town" "kinds" "[I") ∈ gx_G := gx_mem 148 (by decide +kernel) (by decide +kernel)
theorem mw_149 : (Cond.fieldLink RX8 15 "DownTheGutter$Town" "nexts" "[I") ∈ gx_G := gx_mem 149 (by decide +kernel) (by decide +kernel)
theorem mw_150 : (Cond.fieldLink RX8 18 "DownTheGutter$Town" "seconds" "[I") ∈ gx_G := gx_mem 150 (by decide +kernel) (by decide +kernel)
theorem mw_151 : (Cond.fieldLink RX8 21 "DownTheGutter$Town" "figures" "[I") ∈ gx_G := gx_mem 151 (by decide +kernel) (by decide +kernel)
theorem mw_152 : (Cond.fieldLink RX8 24 "DownTheGutter$Town" "firstUse" "[I") ∈ gx_G := gx_mem 152 (by decide +kernel) (by decide +kernel)
theorem mw_153 : (Cond.fieldLink RX8 37 "DownTheGutter$Town" "kitchens" "I") ∈ gx_G := gx_mem 153 (by decide +kernel) (by decide +kernel)
theorem mw_154 : (Cond.fieldLink RX8 31 "DownTheGutter$Town" "size" "I") ∈ gx_G := gx_mem 154 (by decide +kernel) (by decide +kernel)
theorem mw_156 : (Cond.fieldLink RX8 34 "DownTheGutter$Town" "forks" "I") ∈ gx_G := gx_mem 156 (by decide +kernel) (by decide +kernel)
theorem mw_159 : (Cond.fieldLink RX8 27 "DownTheGutter$Town" "sets" "I") ∈ gx_G := gx_mem 159 (by decide +kernel) (by decide +kernel)
theorem mw_188 : (Cond.fieldLink RX10 15 "DownTheGutter$Water" "length" "I") ∈ gx_G := gx_mem 188 (by decide +kernel) (by decide +kernel)
theorem mw_200 : (Cond.fieldLink RX5 9 "DownTheGutter$Rule" "steps" "[I") ∈ gx_G := gx_mem 200 (by decide +kernel) (by decide +kernel)
theorem mw_203 : (Cond.fieldLink RX5 19 "DownTheGutter$Rule" "size" "I") ∈ gx_G := gx_mem 203 (by decide +kernel) (by decide +kernel)
theorem mw_204 : (Cond.fieldLink RX5 60 "DownTheGutter$Rule" "holding" "I") ∈ gx_G := gx_mem 204 (by decide +kernel) (by decide +kernel)
theorem mw_205 : (Cond.fieldLink RX5 63 "DownTheGutter$Rule" "open" "I") ∈ gx_G := gx_mem 205 (by decide +kernel) (by decide +kernel)
theorem mw_206 : (Cond.fieldLink RX5 66 "DownTheGutter$Rule" "compared" "I") ∈ gx_G := gx_mem 206 (by decide +kernel) (by decide +kernel)
theorem mw_207 : (Cond.fieldLink RX5 69 "DownTheGutter$Rule" "digits" "I") ∈ gx_G := gx_mem 207 (by decide +kernel) (by decide +kernel)
theorem mw_208 : (Cond.fieldLink RX5 50 "DownTheGutter$Rule" "wantsThing" "Z") ∈ gx_G := gx_mem 208 (by decide +kernel) (by decide +kernel)
theorem mw_209 : (Cond.fieldLink RX5 23 "DownTheGutter$Rule" "asksPlank" "Z") ∈ gx_G := gx_mem 209 (by decide +kernel) (by decide +kernel)
theorem mw_211 : (Cond.fieldLink RX1 29 "DownTheGutter$Rule" "asksOthers" "Z") ∈ gx_G := gx_mem 211 (by decide +kernel) (by decide +kernel)
theorem mw_212 : (Cond.fieldLink RX5 27 "DownTheGutter$Rule" "asksOthers" "Z") ∈ gx_G := gx_mem 212 (by decide +kernel) (by decide +kernel)
theorem mw_264 : (Cond.fieldLink RX6 9 "DownTheGutter$Scene" "spots" "[I") ∈ gx_G := gx_mem 264 (by decide +kernel) (by decide +kernel)
theorem mw_270 : (Cond.fieldLink RX6 30 "DownTheGutter$Scene" "things" "I") ∈ gx_G := gx_mem 270 (by decide +kernel) (by decide +kernel)
theorem mw_271 : (Cond.fieldLink RX1 60 "DownTheGutter$Scene" "things" "I") ∈ gx_G := gx_mem 271 (by decide +kernel) (by decide +kernel)
theorem mw_273 : (Cond.fieldLink RX6 34 "DownTheGutter$Scene" "planks" "I") ∈ gx_G := gx_mem 273 (by decide +kernel) (by decide +kernel)
theorem mw_277 : (Cond.fieldLink RX6 37 "DownTheGutter$Scene" "now" "I") ∈ gx_G := gx_mem 277 (by decide +kernel) (by decide +kernel)
theorem mw_279 : (Cond.fieldLink RX1 52 "DownTheGutter$Scene" "now" "I") ∈ gx_G := gx_mem 279 (by decide +kernel) (by decide +kernel)
theorem mw_281 : (Cond.fieldLink RX6 40 "DownTheGutter$Scene" "home" "I") ∈ gx_G := gx_mem 281 (by decide +kernel) (by decide +kernel)
theorem mw_284 : (Cond.fieldLink RX6 43 "DownTheGutter$Scene" "lost" "I") ∈ gx_G := gx_mem 284 (by decide +kernel) (by decide +kernel)
theorem mw_319 : (Cond.fieldLink RX3 11 "DownTheGutter$Past" "scenes" "[LDownTheGutter$Scene;") ∈ gx_G := gx_mem 319 (by decide +kernel) (by decide +kernel)
theorem mw_320 : (Cond.fieldLink RX3 20 "DownTheGutter$Past" "top" "I") ∈ gx_G := gx_mem 320 (by decide +kernel) (by decide +kernel)
theorem mw_321 : (Cond.fieldLink RX3 16 "DownTheGutter$Past" "size" "I") ∈ gx_G := gx_mem 321 (by decide +kernel) (by decide +kernel)
theorem mw_356 : (Cond.fieldLink RX4 9 "DownTheGutter$Row" "numbers" "[J") ∈ gx_G := gx_mem 356 (by decide +kernel) (by decide +kernel)
theorem mw_357 : (Cond.fieldLink RX4 13 "DownTheGutter$Row" "size" "I") ∈ gx_G := gx_mem 357 (by decide +kernel) (by decide +kernel)
theorem mw_372 : (Cond.fieldLink RX1 21 "DownTheGutter$Current" "water" "LDownTheGutter$Water;") ∈ gx_G := gx_mem 372 (by decide +kernel) (by decide +kernel)
theorem mw_373 : (Cond.fieldLink RX1 25 "DownTheGutter$Current" "rule" "LDownTheGutter$Rule;") ∈ gx_G := gx_mem 373 (by decide +kernel) (by decide +kernel)
theorem mw_383 : (Cond.fieldLink RX1 39 "DownTheGutter$Current" "rain" "I") ∈ gx_G := gx_mem 383 (by decide +kernel) (by decide +kernel)
theorem mw_520 : (Cond.methodLink RX8 40 yX8_clear) ∈ gx_G := gx_mem 520 (by decide +kernel) (by decide +kernel)
theorem mw_522 : (Cond.instanceMethod yX8_clear) ∈ gx_G := gx_mem 522 (by decide +kernel) (by decide +kernel)
theorem mw_523 : (Cond.code yX8_clear cX8_clear 2 none) ∈ gx_G := gx_mem 523 (by decide +kernel) (by decide +kernel)
theorem mw_524 : (Cond.methodLink RX8 43 yX7_showAtMost) ∈ gx_G := gx_mem 524 (by decide +kernel) (by decide +kernel)
theorem mw_525 : (Cond.instanceMethod yX7_showAtMost) ∈ gx_G := gx_mem 525 (by decide +kernel) (by decide +kernel)
theorem mw_526 : (Cond.selects RX7 yX7_showAtMost yX7_showAtMost) ∈ gx_G := gx_mem 526 (by decide +kernel) (by decide +kernel)
theorem mw_527 : (Cond.code yX7_showAtMost cX7_showAtMost 2 none) ∈ gx_G := gx_mem 527 (by decide +kernel) (by decide +kernel)
theorem mw_528 : (Cond.methodLink RX7 19 Lib.Math.min.name) ∈ gx_G := gx_mem 528 (by decide +kernel) (by decide +kernel)
theorem mw_529 : (Cond.static Lib.Math.min.name) ∈ gx_G := gx_mem 529 (by decide +kernel) (by decide +kernel)
theorem mw_530 : (Cond.code Lib.Math.min.name Lib.Math.min.code 2 (some .int)) ∈ gx_G := gx_mem 530 (by decide +kernel) (by decide +kernel)
theorem mw_531 : (Cond.methodLink RX8 49 yX7_isOver) ∈ gx_G := gx_mem 531 (by decide +kernel) (by decide +kernel)
theorem mw_532 : (Cond.instanceMethod yX7_isOver) ∈ gx_G := gx_mem 532 (by decide +kernel) (by decide +kernel)
theorem mw_533 : (Cond.selects RX7 yX7_isOver yX7_isOver) ∈ gx_G := gx_mem 533 (by decide +kernel) (by decide +kernel)
theorem mw_534 : (Cond.code yX7_isOver cX7_isOver 2 (some .boolean)) ∈ gx_G := gx_mem 534 (by decide +kernel) (by decide +kernel)
theorem mw_689 : (Cond.methodLink RX10 19 yX7_showAtMost) ∈ gx_G := gx_mem 689 (by decide +kernel) (by decide +kernel)
theorem mw_690 : (Cond.methodLink RX10 25 yX7_isOver) ∈ gx_G := gx_mem 690 (by decide +kernel) (by decide +kernel)
theorem mw_692 : (Cond.methodLink RX10 34 Lib.Math.min.name) ∈ gx_G := gx_mem 692 (by decide +kernel) (by decide +kernel)
theorem mw_701 : (Cond.methodLink RX5 30 yX5_clear) ∈ gx_G := gx_mem 701 (by decide +kernel) (by decide +kernel)
theorem mw_703 : (Cond.instanceMethod yX5_clear) ∈ gx_G := gx_mem 703 (by decide +kernel) (by decide +kernel)
theorem mw_704 : (Cond.code yX5_clear cX5_clear 1 none) ∈ gx_G := gx_mem 704 (by decide +kernel) (by decide +kernel)
theorem mw_705 : (Cond.methodLink RX5 33 yX7_showAtMost) ∈ gx_G := gx_mem 705 (by decide +kernel) (by decide +kernel)
theorem mw_706 : (Cond.methodLink RX5 39 yX7_isOver) ∈ gx_G := gx_mem 706 (by decide +kernel) (by decide +kernel)
theorem mw_707 : (Cond.methodLink RX5 43 yX5_addFact) ∈ gx_G := gx_mem 707 (by decide +kernel) (by decide +kernel)
theorem mw_709 : (Cond.instanceMethod yX5_addFact) ∈ gx_G := gx_mem 709 (by decide +kernel) (by decide +kernel)
theorem mw_710 : (Cond.code yX5_addFact cX5_addFact 2 none) ∈ gx_G := gx_mem 710 (by decide +kernel) (by decide +kernel)
theorem mw_711 : (Cond.methodLink RX5 84 yX5_addStep) ∈ gx_G := gx_mem 711 (by decide +kernel) (by decide +kernel)
theorem mw_713 : (Cond.instanceMethod yX5_addStep) ∈ gx_G := gx_mem 713 (by decide +kernel) (by decide +kernel)
theorem mw_714 : (Cond.code yX5_addStep cX5_addStep 2 none) ∈ gx_G := gx_mem 714 (by decide +kernel) (by decide +kernel)
theorem mw_761 : (Cond.instanceMethod yX10_in) ∈ gx_G := gx_mem 761 (by decide +kernel) (by decide +kernel)
theorem mw_762 : (Cond.selects RX10 yX10_in yX10_in) ∈ gx_G := gx_mem 762 (by decide +kernel) (by decide +kernel)
theorem mw_763 : (Cond.code yX10_in cX10_in 2 (some .int)) ∈ gx_G := gx_mem 763 (by decide +kernel) (by decide +kernel)
theorem mw_776 : (Cond.methodLink RX3 23 yX6_copy) ∈ gx_G := gx_mem 776 (by decide +kernel) (by decide +kernel)
theorem mw_777 : (Cond.instanceMethod yX6_copy) ∈ gx_G := gx_mem 777 (by decide +kernel) (by decide +kernel)
theorem mw_778 : (Cond.selects RX6 yX6_copy yX6_copy) ∈ gx_G := gx_mem 778 (by decide +kernel) (by decide +kernel)
theorem mw_779 : (Cond.code yX6_copy cX6_copy 3 none) ∈ gx_G := gx_mem 779 (by decide +kernel) (by decide +kernel)
theorem mw_780 : (Cond.methodLink RX3 27 Lib.Math.min.name) ∈ gx_G := gx_mem 780 (by decide +kernel) (by decide +kernel)
theorem mw_845 : (Cond.methodLink RX1 57 yX1_flowIn) ∈ gx_G := gx_mem 845 (by decide +kernel) (by decide +kernel)
theorem mw_847 : (Cond.instanceMethod yX1_flowIn) ∈ gx_G := gx_mem 847 (by decide +kernel) (by decide +kernel)
theorem mw_848 : (Cond.code yX1_flowIn cX1_flowIn 5 (some .int)) ∈ gx_G := gx_mem 848 (by decide +kernel) (by decide +kernel)
theorem mw_849 : (Cond.methodLink RX1 33 yX10_in) ∈ gx_G := gx_mem 849 (by decide +kernel) (by decide +kernel)
theorem mw_898 : (Cond.constant RJ6 265 (1431655765)) ∈ gx_G := gx_mem 898 (by decide +kernel) (by decide +kernel)
theorem mw_899 : (Cond.constant RJ6 266 (858993459)) ∈ gx_G := gx_mem 899 (by decide +kernel) (by decide +kernel)
theorem mw_900 : (Cond.constant RJ6 267 (252645135)) ∈ gx_G := gx_mem 900 (by decide +kernel) (by decide +kernel)
theorem cw_X8_40 : gx_Wv RX8 40 yX8_clear cX8_clear 2 none 0 := ⟨⟨mw_520, mw_522, mw_0, mw_91, mw_523⟩, by decide +kernel⟩
theorem cw_X8_43 : gx_Wv RX8 43 yX7_showAtMost cX7_showAtMost 2 none 1 := ⟨⟨mw_524, mw_525, mw_526, mw_90, mw_527⟩, by decide +kernel⟩
theorem cw_X8_49 : gx_Wv RX8 49 yX7_isOver cX7_isOver 2 (some .boolean) 1 := ⟨⟨mw_531, mw_532, mw_533, mw_90, mw_534⟩, by decide +kernel⟩
theorem cw_X10_19 : gx_Wv RX10 19 yX7_showAtMost cX7_showAtMost 2 none 1 := ⟨⟨mw_689, mw_525, mw_526, mw_90, mw_527⟩, by decide +kernel⟩
theorem cw_X10_25 : gx_Wv RX10 25 yX7_isOver cX7_isOver 2 (some .boolean) 1 := ⟨⟨mw_690, mw_532, mw_533, mw_90, mw_534⟩, by decide +kernel⟩
theorem cw_X5_84 : gx_Wv RX5 84 yX5_addStep cX5_addStep 2 none 1 := ⟨⟨mw_711, mw_713, mw_10, mw_93, mw_714⟩, by decide +kernel⟩
theorem cw_X5_30 : gx_Wv RX5 30 yX5_clear cX5_clear 1 none 0 := ⟨⟨mw_701, mw_703, mw_8, mw_93, mw_704⟩, by decide +kernel⟩
theorem cw_X5_33 : gx_Wv RX5 33 yX7_showAtMost cX7_showAtMost 2 none 1 := ⟨⟨mw_705, mw_525, mw_526, mw_90, mw_527⟩, by decide +kernel⟩
theorem cw_X5_39 : gx_Wv RX5 39 yX7_isOver cX7_isOver 2 (some .boolean) 1 := ⟨⟨mw_706, mw_532, mw_533, mw_90, mw_534⟩, by decide +kernel⟩
theorem cw_X5_43 : gx_Wv RX5 43 yX5_addFact cX5_addFact 2 none 1 := ⟨⟨mw_707, mw_709, mw_9, mw_93, mw_710⟩, by decide +kernel⟩
theorem cw_X3_23 : gx_Wv RX3 23 yX6_copy cX6_copy 3 none 1 := ⟨⟨mw_776, mw_777, mw_778, mw_95, mw_779⟩, by decide +kernel⟩
theorem cw_X1_33 : gx_Wv RX1 33 yX10_in cX10_in 2 (some .int) 1 := ⟨⟨mw_849, mw_761, mw_762, mw_92, mw_763⟩, by decide +kernel⟩
theorem cw_X1_57 : gx_Wv RX1 57 yX1_flowIn cX1_flowIn 5 (some .int) 1 := ⟨⟨mw_845, mw_847, mw_19, mw_99, mw_848⟩, by decide +kernel⟩
def gx_tb : List gD := [.inl (12, [some (some 1), some (some 3), some (some 9), some (some 15), some (some 17), some (some 21), some (some 25), some (some 30), some (some 37), some (some 44), some (some 151), none, some (some 152), some (some 156), some (some 158), some (some 160)]), .inl (8, [some (some 2), none, none]), .inr (0, 80, []), .inl (9, [some (some 4), some (some 5), some (some 6), some (some 7), some (some 8), none, none, none, none]), .inr (0, 12, []), .inr (0, 12, []), .inr (0, 12, []), .inr (0, 12, []), .inr (0, 12, []), .inl (9, [some (some 10), some (some 11), some (some 12), some (some 13), some (some 14), none, none, none, none]), .inr (0, 12, []), .inr (0, 12, []), .inr (0, 12, []), .inr (0, 12, []), .inr (0, 12, []), .inl (11, [some (some 16), none]), .inr (0, 40, []), .inl (6, [some (some 18), some (some 19), some (some 20), none, none, none, none, none, none, none, none]), .inr (0, 40, []), .inr (0, 40, []), .inr (0, 40, []), .inl (6, [some (some 22), some (some 23), some (some 24), none, none, none, none, none, none, none, none]), .inr (0, 40, []), .inr (0, 40, []), .inr (0, 40, []), .inl (3, [some (some 26), some (some 27), some (some 28), some (some 29), none]), .inr (0, 20, []), .inr (0, 20, []), .inr (0, 20, []), .inr (0, 20, []), .inl (7, [some (some 31), some (some 32), some (some 33), some (some 34), some (some 35), some (some 36), none, none, none, none, none]), .inr (0, 6, []), .inr (0, 6, []), .inr (0, 6, []), .inr (0, 6, []), .inr (0, 6, []), .inr (0, 6, []), .inl (7, [some (some 38), some (some 39), some (some 40), some (some 41), some (some 42), some (some 43), none, none, none, none, none]), .inr (0, 6, []), .inr (0, 6, []), .inr (0, 6, []), .inr (0, 6, []), .inr (0, 6, []), .inr (0, 6, []), .inl (4, [some (some 45), none, none]), .inr (3, 15, [some 46, some 53, some 60, some 67, some 74, some 81, some 88, some 95, some 102, some 109, some 116, some 123, some 130, some 137, some 144]), .inl (7, [some (some 47), some (some 48), some (some 49), some (some 50), some (some 51), some (some 52), none, none, none, none, none]), .inr (0, 6, []), .inr (0, 6, []), .inr (0, 6, []), .inr (0, 6, []), .inr (0, 6, []), .inr (0, 6, []), .inl (7, [some (some 54), some (some 55), some (some 56), some (some 57), some (some 58), some (some 59), none, none, none, none, none]), .inr (0, 6, []), .inr (0, 6, []), .inr (0, 6, []), .inr (0, 6, []), .inr (0, 6, []), .inr (0, 6, []), .inl (7, [some (some 61), some (some 62), some (some 63), some (some 64), some (some 65), some (some 66), none, none, none, none, none]), .inr (0, 6, []), .inr (0, 6, []), .inr (0, 6, []), .inr (0, 6, []), .inr (0, 6, []), .inr (0, 6, []), .inl (7, [some (some 68), some (some 69), some (some 70), some (some 71), some (some 72), some (some 73), none, none, none, none, none]), .inr (0, 6, []), .inr (0, 6, []), .inr (0, 6, []), .inr (0, 6, []), .inr (0, 6, []), .inr (0, 6, []), .inl (7, [some (some 75), some (some 76), some (some 77), some (some 78), some (some 79), some (some 80), none, none, none, none, none]), .inr (0, 6, []), .inr (0, 6, []), .inr (0, 6, []), .inr (0, 6, []), .inr (0, 6, []), .inr (0, 6, []), .inl (7, [some (some 82), some (some 83), some (some 84), some (some 85), some (some 86), some (some 87), none, none, none, none, none]), .inr (0, 6, []), .inr (0, 6, []), .inr (0, 6, []), .inr (0, 6, []), .inr (0, 6, []), .inr (0, 6, []), .inl (7, [some (some 89), some (some 90), some (some 91), some (some 92), some (some 93), some (some 94), none, none, none, none, none]), .inr (0, 6, []), .inr (0, 6, []), .inr (0, 6, []), .inr (0, 6, []), .inr (0, 6, []), .inr (0, 6, []), .inl (7, [some (some 96), some (some 97), some (some 98), some (some 99), some (some 100), some (some 101), none, none, none, none, none]), .inr (0, 6, []), .inr (0, 6, []), .inr (0, 6, []), .inr (0, 6, []), .inr (0, 6, []), .inr (0, 6, []), .inl (7, [some (some 103), some (some 104), some (some 105), some (some 106), some (some 107), some (some 108), none, none, none, none, none]), .inr (0, 6, []), .inr (0, 6, []), .inr (0, 6, []), .inr (0, 6, []), .inr (0, 6, []), .inr (0, 6, []), .inl (7, [some (some 110), some (some 111), some (some 112), some (some 113), some (some 114), some (some 115), none, none, none, none, none]), .inr (0, 6, []), .inr (0, 6, []), .inr (0, 6, []), .inr (0, 6, []), .inr (0, 6, []), .inr (0, 6, []), .inl (7, [some (some 117), some (some 118), some (some 119), some (some 120), some (some 121), some (some 122), none, none, none, none, none]), .inr (0, 6, []), .inr (0, 6, []), .inr (0, 6, []), .inr (0, 6, []), .inr (0, 6, []), .inr (0, 6, []), .inl (7, [some (some 124), some (some 125), some (some 126), some (some 127), some (some 128), some (some 129), none, none, none, none, none]), .inr (0, 6, []), .inr (0, 6, []), .inr (0, 6, []), .inr (0, 6, []), .inr (0, 6, []), .inr (0, 6, []), .inl (7, [some (some 131), some (some 132), some (some 133), some (some 134), some (some 135), some (some 136), none, none, none, none, none]), .inr (0, 6, []), .inr (0, 6, []), .inr (0, 6, []), .inr (0, 6, []), .inr (0, 6, []), .inr (0, 6, []), .inl (7, [some (some 138), some (some 139), some (some 140), some (some 141), some (some 142), some (some 143), none, none, none, none, none]), .inr (0, 6, []), .inr (0, 6, []), .inr (0, 6, []), .inr (0, 6, []), .inr (0, 6, []), .inr (0, 6, []), .inl (7, [some (some 145), some (some 146), some (some 147), some (some 148), some (some 149), some (some 150), none, none, none, none, none]), .inr (0, 6, []), .inr (0, 6, []), .inr (0, 6, []), .inr (0, 6, []), .inr (0, 6, []), .inr (0, 6, []), .inr (3, 3, [some 178, some 185, some 192]), .inl (1, [some (some 153), some (some 154), some (some 155), none]), .inr (0, 10, []), .inr (0, 10, []), .inr (0, 10, []), .inl (5, [some (some 157), none]), .inr (1, 3, []), .inl (2, [some (some 3), some (some 15), some (some 17), some (some 159), none, none, none, none, none, none]), .inr (0, 8, []), .inl (10, [some (some 3), some (some 158), some (some 161), some (some 162), some (some 163), none, none, some (some 164), some (some 171)]), .inr (0, 4096, []), .inr (2, 4096, []), .inr (0, 13, []), .inl (7, [some (some 165), some (some 166), some (some 167), some (some 168), some (some 169), some (some 170), none, none, none, none, none]), .inr (0, 6, []), .inr (0, 6, []), .inr (0, 6, []), .inr (0, 6, []), .inr (0, 6, []), .inr (0, 6, []), .inl (7, [some (some 172), some (some 173), some (some 174), some (some 175), some (some 176), some (some 177), none, none, none, none, none]), .inr (0, 6, []), .inr (0, 6, []), .inr (0, 6, []), .inr (0, 6, []), .inr (0, 6, []), .inr (0, 6, []), .inl (7, [some (some 179), some (some 180), some (some 181), some (some 182), some (some 183), some (some 184), none, none, none, none, none]), .inr (0, 6, []), .inr (0, 6, []), .inr (0, 6, []), .inr (0, 6, []), .inr (0, 6, []), .inr (0, 6, []), .inl (7, [some (some 186), some (some 187), some (some 188), some (some 189), some (some 190), some (some 191), none, none, none, none, none]), .inr (0, 6, []), .inr (0, 6, []), .inr (0, 6, []), .inr (0, 6, []), .inr (0, 6, []), .inr (0, 6, []), .inl (7, [some (some 193), some (some 194), some (some 195), some (some 196), some (some 197), some (some 198), none, none, none, none, none]), .inr (0, 6, []), .inr (0, 6, []), .inr (0, 6, []), .inr (0, 6, []), .inr (0, 6, []), .inr (0, 6, []), .inl (13, [none, none, some (some 200), none, none, some (some 201), some (some 202), some (some 203), some (some 204), some (some 205), some (some 206), some (some 207), some (some 208), none, none, none, none, some (some 209), some (some 210), some (some 211), some (some 212), none, some (some 213), some (some 214), none, some (some 215), some (some 216), some (some 217), none, none, some (some 218), none, none, none, none, none, none, some (some 219), some (some 220), some (some 221), some (some 222), some (some 223), none, none, some (some 224), none, none, some (some 225), none, none, none, none, none, some (some 226), some (some 227), some (some 228), some (some 229), some (some 230), some (some 231), some (some 232)]), .inr (1, 16, []), .inr (0, 12, []), .inr (0, 12, []), .inr (0, 12, []), .inr (0, 12, []), .inr (0, 40, []), .inr (0, 45, []), .inr (0, 45, []), .inr (0, 80, []), .inr (0, 12, []), .inr (0, 12, []), .inr (0, 12, []), .inr (0, 12, []), .inr (0, 80, []), .inr (0, 80, []), .inr (0, 40, []), .inr (0, 80, []), .inr (0, 80, []), .inr (0, 80, []), .inr (0, 720, []), .inr (0, 60, []), .inr (0, 60, []), .inr (0, 60, []), .inr (0, 60, []), .inr (0, 45, []), .inr (0, 4096, []), .inr (0, 10, []), .inr (0, 10, []), .inr (0, 10, []), .inr (2, 4096, []), .inr (0, 13, []), .inr (2, 3, []), .inr (0, 135, []), .inr (1, 1, [])]
theorem t_1 : gx_tb[1]? = some (.inl (8, [some (some 2), none, none])) := rfl
theorem t_2 : gx_tb[2]? = some (.inr (0, 80, [])) := rfl
theorem t_3 : gx_tb[3]? = some (.inl (9, [some (some 4), some (some 5), some (some 6), some (some 7), some (some 8), none, none, none, none])) := rfl
theorem t_4 : gx_tb[4]? = some (.inr (0, 12, [])) := rfl
theorem t_5 : gx_tb[5]? = some (.inr (0, 12, [])) := rfl
theorem t_6 : gx_tb[6]? = some (.inr (0, 12, [])) := rfl
theorem t_7 : gx_tb[7]? = some (.inr (0, 12, [])) := rfl
theorem t_9 : gx_tb[9]? = some (.inl (9, [some (some 10), some (some 11), some (some 12), some (some 13), some (some 14), none, none, none, none])) := rfl
theorem t_10 : gx_tb[10]? = some (.inr (0, 12, [])) := rfl
theorem t_11 : gx_tb[11]? = some (.inr (0, 12, [])) := rfl
theorem t_12 : gx_tb[12]? = some (.inr (0, 12, [])) := rfl
theorem t_13 : gx_tb[13]? = some (.inr (0, 12, [])) := rfl
theorem t_14 : gx_tb[14]? = some (.inr (0, 12, [])) := rfl
theorem t_15 : gx_tb[15]? = some (.inl (11, [some (some 16), none])) := rfl
theorem t_17 : gx_tb[17]? = some (.inl (6, [some (some 18), some (some 19), some (some 20), none, none, none, none, none, none, none, none])) := rfl
theorem t_18 : gx_tb[18]? = some (.inr (0, 40, [])) := rfl
theorem t_21 : gx_tb[21]? = some (.inl (6, [some (some 22), some (some 23), some (some 24), none, none, none, none, none, none, none, none])) := rfl
theorem t_22 : gx_tb[22]? = some (.inr (0, 40, [])) := rfl
theorem t_30 : gx_tb[30]? = some (.inl (7, [some (some 31), some (some 32), some (some 33), some (some 34), some (some 35), some (some 36), none, none, none, none, none])) := rfl
theorem t_44 : gx_tb[44]? = some (.inl (4, [some (some 45), none, none])) := rfl
theorem t_45 : gx_tb[45]? = some (.inr (3, 15, [some 46, some 53, some 60, some 67, some 74, some 81, some 88, some 95, some 102, some 109, some 116, some 123, some 130, some 137, some 144])) := rfl
theorem t_46 : gx_tb[46]? = some (.inl (7, [some (some 47), some (some 48), some (some 49), some (some 50), some (some 51), some (some 52), none, none, none, none, none])) := rfl
theorem t_156 : gx_tb[156]? = some (.inl (5, [some (some 157), none])) := rfl
theorem t_157 : gx_tb[157]? = some (.inr (1, 3, [])) := rfl
theorem t_158 : gx_tb[158]? = some (.inl (2, [some (some 3), some (some 15), some (some 17), some (some 159), none, none, none, none, none, none])) := rfl
theorem t_171 : gx_tb[171]? = some (.inl (7, [some (some 172), some (some 173), some (some 174), some (some 175), some (some 176), some (some 177), none, none, none, none, none])) := rfl
theorem t_172 : gx_tb[172]? = some (.inr (0, 6, [])) := rfl
def gs0 : gI := up2 (up2 (up2 (up2 (up2 (up2 ((fun _ _ => 0 : gI)) 3 8 1) 9 8 1) 17 3 1) 17 9 1) 21 3 1) 21 9 1
def gt0 : gJ := fun _ _ => 0
