theorem mw_38 : (Cond.selects RX0 yX0_has yX0_has) ∈ gx_G := gx_mem 38 (by decide +kernel) (by decide +kernel)
theorem mw_90 : (Cond.initialized RX7) ∈ gx_G := gx_mem 90 (by decide +kernel) (by decide +kernel)
theorem mw_91 : (Cond.initialized RX8) ∈ gx_G := gx_mem 91 (by decide +kernel) (by decide +kernel)
theorem mw_92 : (Cond.initialized RX10) ∈ gx_G := gx_mem 92 (by decide +kernel) (by decide +kernel)
theorem mw_93 : (Cond.initialized RX5) ∈ gx_G := gx_mem 93 (by decide +kernel) (by decide +kernel)
theorem mw_95 : (Cond.initialized RX6) ∈ gx_G := gx_mem 95 (by decide +kernel) (by decide +kernel)
theorem mw_96 : (Cond.initialized RX3) ∈ gx_G := gx_mem 96 (by decide +kernel) (by decide +kernel)
theorem mw_97 : (Cond.initialized RX0) ∈ gx_G := gx_mem 97 (by decide +kernel) (by decide +kernel)
theorem mw_102 : (Cond.initialized RJ9) ∈ gx_G := gx_mem 102 (by decide +kernel) (by decide +kernel)
theorem mw_114 : (Cond.initialized RJ6) ∈ gx_G := gx_mem 114 (by decide +kernel) (by decide +kernel)
theorem mw_129 : (Cond.fieldLink RX7 11 "DownTheGutter$Signs" "signs" "[I") ∈ gx_G := gx_mem 129 (by decide +kernel) (by decide +kernel)
theorem mw_130 : (Cond.fieldLink RX7 25 "DownTheGutter$Signs" "seen" "I") ∈ gx_G := gx_mem 130 (by decide +kernel) (by decide +kernel)
theorem mw_131 : (Cond.fieldLink RX7 15 "DownTheGutter$Signs" "length" "I") ∈ gx_G := gx_mem 131 (by decide +kernel) (by decide +kernel)
theorem mw_133 : (Cond.fieldLink RX10 33 "DownTheGutter$Signs" "length" "I") ∈ gx_G := gx_mem 133 (by decide +kernel) (by decide +kernel)
theorem mw_148 : (Cond.fieldLink RX8 9 "DownTheGutter$Town" "kinds" "[I") ∈ gx_G := gx_mem 148 (by decide +kernel) (by decide +kernel)
theorem mw_149 : (Cond.fieldLink RX8 15 "DownTheGutter$Town" "nexts" "[I") ∈ gx_G := gx_mem 149 (by decide +kernel) (by decide +kernel)
theorem mw_150 : (Cond.fieldLink RX8 18 "DownTheGutter$Town" "seconds" "[I") ∈ gx_G := gx_mem 150 (by decide +kernel) (by decide +kernel)
theorem mw_151 : (Cond.fieldLink RX8 21 "DownTheGutter$Town" "figures" "[I") ∈ gx_G := gx_mem 151 (by decide +kernel) (by decide +kernel)
theorem mw_153 : (Cond.fieldLink RX8 37 "DownTheGutter$Town" "kitchens" "I") ∈ gx_G := gx_mem 153 (by decide +kernel) (by decide +kernel)
theorem mw_187 : (Cond.fieldLink RX10 11 "DownTheGutter$Water" "digits" "[I") ∈ gx_G := gx_mem 187 (by decide +kernel) (by decide +kernel)
theorem mw_188 : (Cond.fieldLink RX10 15 "DownTheGutter$Water" "length" "I") ∈ gx_G := gx_mem 188 (by decide +kernel) (by decide +kernel)
theorem mw_200 : (Cond.fieldLink RX5 9 "DownTheGutter$Rule" "steps" "[I") ∈ gx_G := gx_mem 200 (by decide +kernel) (by decide +kernel)
theorem mw_201 : (Cond.fieldLink RX5 13 "DownTheGutter$Rule" "stack" "[I") ∈ gx_G := gx_mem 201 (by decide +kernel) (by decide +kernel)
theorem mw_203 : (Cond.fieldLink RX5 19 "DownTheGutter$Rule" "size" "I") ∈ gx_G := gx_mem 203 (by decide +kernel) (by decide +kernel)
theorem mw_210 : (Cond.fieldLink RX1 106 "DownTheGutter$Rule" "asksPlank" "Z") ∈ gx_G := gx_mem 210 (by decide +kernel) (by decide +kernel)
theorem mw_211 : (Cond.fieldLink RX1 29 "DownTheGutter$Rule" "asksOthers" "Z") ∈ gx_G := gx_mem 211 (by decide +kernel) (by decide +kernel)
theorem mw_264 : (Cond.fieldLink RX6 9 "DownTheGutter$Scene" "spots" "[I") ∈ gx_G := gx_mem 264 (by decide +kernel) (by decide +kernel)
theorem mw_265 : (Cond.fieldLink RX6 15 "DownTheGutter$Scene" "papers" "[I") ∈ gx_G := gx_mem 265 (by decide +kernel) (by decide +kernel)
theorem mw_266 : (Cond.fieldLink RX6 18 "DownTheGutter$Scene" "purses" "[I") ∈ gx_G := gx_mem 266 (by decide +kernel) (by decide +kernel)
theorem mw_267 : (Cond.fieldLink RX6 21 "DownTheGutter$Scene" "trails" "[I") ∈ gx_G := gx_mem 267 (by decide +kernel) (by decide +kernel)
theorem mw_268 : (Cond.fieldLink RX6 24 "DownTheGutter$Scene" "starts" "[I") ∈ gx_G := gx_mem 268 (by decide +kernel) (by decide +kernel)
theorem mw_269 : (Cond.fieldLink RX6 27 "DownTheGutter$Scene" "ends" "[I") ∈ gx_G := gx_mem 269 (by decide +kernel) (by decide +kernel)
theorem mw_270 : (Cond.fieldLink RX6 30 "DownTheGutter$Scene" "things" "I") ∈ gx_G := gx_mem 270 (by decide +kernel) (by decide +kernel)
theorem mw_273 : (Cond.fieldLink RX6 34 "DownTheGutter$Scene" "planks" "I") ∈ gx_G := gx_mem 273 (by decide +kernel) (by decide +kernel)
theorem mw_274 : (Cond.fieldLink RX9 77 "DownTheGutter$Scene" "planks" "I") ∈ gx_G := gx_mem 274 (by decide +kernel) (by decide +kernel)
theorem mw_275 : (Cond.fieldLink RX1 112 "DownTheGutter$Scene" "planks" "I") ∈ gx_G := gx_mem 275 (by decide +kernel) (by decide +kernel)
theorem mw_277 : (Cond.fieldLink RX6 37 "DownTheGutter$Scene" "now" "I") ∈ gx_G := gx_mem 277 (by decide +kernel) (by decide +kernel)
theorem mw_278 : (Cond.fieldLink RX9 43 "DownTheGutter$Scene" "now" "I") ∈ gx_G := gx_mem 278 (by decide +kernel) (by decide +kernel)
theorem mw_279 : (Cond.fieldLink RX1 52 "DownTheGutter$Scene" "now" "I") ∈ gx_G := gx_mem 279 (by decide +kernel) (by decide +kernel)
theorem mw_281 : (Cond.fieldLink RX6 40 "DownTheGutter$Scene" "home" "I") ∈ gx_G := gx_mem 281 (by decide +kernel) (by decide +kernel)
theorem mw_284 : (Cond.fieldLink RX6 43 "DownTheGutter$Scene" "lost" "I") ∈ gx_G := gx_mem 284 (by decide +kernel) (by decide +kernel)
theorem mw_321 : (Cond.fieldLink RX3 16 "DownTheGutter$Past" "size" "I") ∈ gx_G := gx_mem 321 (by decide +kernel) (by decide +kernel)
theorem mw_336 : (Cond.fieldLink RX0 9 "DownTheGutter$Corks" "spots" "[I") ∈ gx_G := gx_mem 336 (by decide +kernel) (by decide +kernel)
theorem mw_337 : (Cond.fieldLink RX0 15 "DownTheGutter$Corks" "minutes" "[I") ∈ gx_G := gx_mem 337 (by decide +kernel) (by decide +kernel)
theorem mw_338 : (Cond.fieldLink RX0 18 "DownTheGutter$Corks" "ends" "[I") ∈ gx_G := gx_mem 338 (by decide +kernel) (by decide +kernel)
theorem mw_339 : (Cond.fieldLink RX0 21 "DownTheGutter$Corks" "told" "I") ∈ gx_G := gx_mem 339 (by decide +kernel) (by decide +kernel)
theorem mw_371 : (Cond.fieldLink RX1 17 "DownTheGutter$Current" "town" "LDownTheGutter$Town;") ∈ gx_G := gx_mem 371 (by decide +kernel) (by decide +kernel)
theorem mw_372 : (Cond.fieldLink RX1 21 "DownTheGutter$Current" "water" "LDownTheGutter$Water;") ∈ gx_G := gx_mem 372 (by decide +kernel) (by decide +kernel)
theorem mw_373 : (Cond.fieldLink RX1 25 "DownTheGutter$Current" "rule" "LDownTheGutter$Rule;") ∈ gx_G := gx_mem 373 (by decide +kernel) (by decide +kernel)
theorem mw_374 : (Cond.fieldLink RX1 11 "DownTheGutter$Current" "facts" "[I") ∈ gx_G := gx_mem 374 (by decide +kernel) (by decide +kernel)
theorem mw_375 : (Cond.fieldLink RX9 80 "DownTheGutter$Current" "asked" "I") ∈ gx_G := gx_mem 375 (by decide +kernel) (by decide +kernel)
theorem mw_376 : (Cond.fieldLink RX1 109 "DownTheGutter$Current" "asked" "I") ∈ gx_G := gx_mem 376 (by decide +kernel) (by decide +kernel)
theorem mw_377 : (Cond.fieldLink RX9 83 "DownTheGutter$Current" "stuck" "I") ∈ gx_G := gx_mem 377 (by decide +kernel) (by decide +kernel)
theorem mw_378 : (Cond.fieldLink RX1 133 "DownTheGutter$Current" "stuck" "I") ∈ gx_G := gx_mem 378 (by decide +kernel) (by decide +kernel)
theorem mw_381 : (Cond.fieldLink RX1 136 "DownTheGutter$Current" "isEndless" "Z") ∈ gx_G := gx_mem 381 (by decide +kernel) (by decide +kernel)
theorem mw_383 : (Cond.fieldLink RX1 39 "DownTheGutter$Current" "rain" "I") ∈ gx_G := gx_mem 383 (by decide +kernel) (by decide +kernel)
theorem mw_385 : (Cond.fieldLink RX1 43 "DownTheGutter$Current" "rainFrom" "I") ∈ gx_G := gx_mem 385 (by decide +kernel) (by decide +kernel)
theorem mw_416 : (Cond.fieldLink RX9 32 "DownTheGutter$Trials" "town" "LDownTheGutter$Town;") ∈ gx_G := gx_mem 416 (by decide +kernel) (by decide +kernel)
theorem mw_417 : (Cond.fieldLink RX9 36 "DownTheGutter$Trials" "current" "LDownTheGutter$Current;") ∈ gx_G := gx_mem 417 (by decide +kernel) (by decide +kernel)
theorem mw_421 : (Cond.fieldLink RX9 57 "DownTheGutter$Trials" "those" "I") ∈ gx_G := gx_mem 421 (by decide +kernel) (by decide +kernel)
theorem mw_422 : (Cond.fieldLink RX9 60 "DownTheGutter$Trials" "lead" "I") ∈ gx_G := gx_mem 422 (by decide +kernel) (by decide +kernel)
theorem mw_423 : (Cond.fieldLink RX9 25 "DownTheGutter$Trials" "start" "LDownTheGutter$Scene;") ∈ gx_G := gx_mem 423 (by decide +kernel) (by decide +kernel)
theorem mw_425 : (Cond.fieldLink RX9 29 "DownTheGutter$Trials" "scene" "LDownTheGutter$Scene;") ∈ gx_G := gx_mem 425 (by decide +kernel) (by decide +kernel)
theorem mw_454 : (Cond.fieldLink RX11 53 "DownTheGutter" "present" "LDownTheGutter$Scene;") ∈ gx_G := gx_mem 454 (by decide +kernel) (by decide +kernel)
theorem mw_456 : (Cond.fieldLink RX11 63 "DownTheGutter" "past" "LDownTheGutter$Past;") ∈ gx_G := gx_mem 456 (by decide +kernel) (by decide +kernel)
theorem mw_457 : (Cond.fieldLink RX11 67 "DownTheGutter" "kept" "[LDownTheGutter$Scene;") ∈ gx_G := gx_mem 457 (by decide +kernel) (by decide +kernel)
theorem mw_458 : (Cond.fieldLink RX11 129 "DownTheGutter" "keptBits" "I") ∈ gx_G := gx_mem 458 (by decide +kernel) (by decide +kernel)
theorem mw_525 : (Cond.instanceMethod yX7_showAtMost) ∈ gx_G := gx_mem 525 (by decide +kernel) (by decide +kernel)
theorem mw_526 : (Cond.selects RX7 yX7_showAtMost yX7_showAtMost) ∈ gx_G := gx_mem 526 (by decide +kernel) (by decide +kernel)
theorem mw_527 : (Cond.code yX7_showAtMost cX7_showAtMost 2 none) ∈ gx_G := gx_mem 527 (by decide +kernel) (by decide +kernel)
theorem mw_528 : (Cond.methodLink RX7 19 Lib.Math.min.name) ∈ gx_G := gx_mem 528 (by decide +kernel) (by decide +kernel)
theorem mw_529 : (Cond.static Lib.Math.min.name) ∈ gx_G := gx_mem 529 (by decide +kernel) (by decide +kernel)
theorem mw_530 : (Cond.code Lib.Math.min.name Lib.Math.min.code 2 (some .int)) ∈ gx_G := gx_mem 530 (by decide +kernel) (by decide +kernel)
theorem mw_532 : (Cond.instanceMethod yX7_isOver) ∈ gx_G := gx_mem 532 (by decide +kernel) (by decide +kernel)
theorem mw_533 : (Cond.selects RX7 yX7_isOver yX7_isOver) ∈ gx_G := gx_mem 533 (by decide +kernel) (by decide +kernel)
theorem mw_534 : (Cond.code yX7_isOver cX7_isOver 2 (some .boolean)) ∈ gx_G := gx_mem 534 (by decide +kernel) (by decide +kernel)
theorem mw_544 : (Cond.methodLink RX7 28 yX7_look) ∈ gx_G := gx_mem 544 (by decide +kernel) (by decide +kernel)
theorem mw_545 : (Cond.instanceMethod yX7_look) ∈ gx_G := gx_mem 545 (by decide +kernel) (by decide +kernel)
theorem mw_546 : (Cond.selects RX7 yX7_look yX7_look) ∈ gx_G := gx_mem 546 (by decide +kernel) (by decide +kernel)
theorem mw_547 : (Cond.code yX7_look cX7_look 2 (some .int)) ∈ gx_G := gx_mem 547 (by decide +kernel) (by decide +kernel)
theorem mw_653 : (Cond.instanceMethod yX7_digit) ∈ gx_G := gx_mem 653 (by decide +kernel) (by decide +kernel)
theorem mw_654 : (Cond.selects RX7 yX7_digit yX7_digit) ∈ gx_G := gx_mem 654 (by decide +kernel) (by decide +kernel)
theorem mw_655 : (Cond.code yX7_digit cX7_digit 3 (some .int)) ∈ gx_G := gx_mem 655 (by decide +kernel) (by decide +kernel)
theorem mw_673 : (Cond.instanceMethod yX6_clear) ∈ gx_G := gx_mem 673 (by decide +kernel) (by decide +kernel)
theorem mw_674 : (Cond.selects RX6 yX6_clear yX6_clear) ∈ gx_G := gx_mem 674 (by decide +kernel) (by decide +kernel)
theorem mw_675 : (Cond.code yX6_clear cX6_clear 1 none) ∈ gx_G := gx_mem 675 (by decide +kernel) (by decide +kernel)
theorem mw_676 : (Cond.methodLink RX11 125 yX3_clear) ∈ gx_G := gx_mem 676 (by decide +kernel) (by decide +kernel)
theorem mw_677 : (Cond.instanceMethod yX3_clear) ∈ gx_G := gx_mem 677 (by decide +kernel) (by decide +kernel)
theorem mw_678 : (Cond.selects RX3 yX3_clear yX3_clear) ∈ gx_G := gx_mem 678 (by decide +kernel) (by decide +kernel)
theorem mw_679 : (Cond.code yX3_clear cX3_clear 1 none) ∈ gx_G := gx_mem 679 (by decide +kernel) (by decide +kernel)
theorem mw_689 : (Cond.methodLink RX10 19 yX7_showAtMost) ∈ gx_G := gx_mem 689 (by decide +kernel) (by decide +kernel)
theorem mw_690 : (Cond.methodLink RX10 25 yX7_isOver) ∈ gx_G := gx_mem 690 (by decide +kernel) (by decide +kernel)
theorem mw_691 : (Cond.methodLink RX10 29 yX7_digit) ∈ gx_G := gx_mem 691 (by decide +kernel) (by decide +kernel)
theorem mw_692 : (Cond.methodLink RX10 34 Lib.Math.min.name) ∈ gx_G := gx_mem 692 (by decide +kernel) (by decide +kernel)
theorem mw_761 : (Cond.instanceMethod yX10_in) ∈ gx_G := gx_mem 761 (by decide +kernel) (by decide +kernel)
theorem mw_762 : (Cond.selects RX10 yX10_in yX10_in) ∈ gx_G := gx_mem 762 (by decide +kernel) (by decide +kernel)
theorem mw_763 : (Cond.code yX10_in cX10_in 2 (some .int)) ∈ gx_G := gx_mem 763 (by decide +kernel) (by decide +kernel)
theorem mw_777 : (Cond.instanceMethod yX6_copy) ∈ gx_G := gx_mem 777 (by decide +kernel) (by decide +kernel)
theorem mw_778 : (Cond.selects RX6 yX6_copy yX6_copy) ∈ gx_G := gx_mem 778 (by decide +kernel) (by decide +kernel)
theorem mw_779 : (Cond.code yX6_copy cX6_copy 3 none) ∈ gx_G := gx_mem 779 (by decide +kernel) (by decide +kernel)
theorem mw_809 : (Cond.instanceMethod yX8_isKitchen) ∈ gx_G := gx_mem 809 (by decide +kernel) (by decide +kernel)
theorem mw_810 : (Cond.selects RX8 yX8_isKitchen yX8_isKitchen) ∈ gx_G := gx_mem 810 (by decide +kernel) (by decide +kernel)
theorem mw_811 : (Cond.code yX8_isKitchen cX8_isKitchen 2 (some .boolean)) ∈ gx_G := gx_mem 811 (by decide +kernel) (by decide +kernel)
theorem mw_813 : (Cond.instanceMethod yX6_add) ∈ gx_G := gx_mem 813 (by decide +kernel) (by decide +kernel)
theorem mw_814 : (Cond.selects RX6 yX6_add yX6_add) ∈ gx_G := gx_mem 814 (by decide +kernel) (by decide +kernel)
theorem mw_815 : (Cond.code yX6_add cX6_add 7 (some .int)) ∈ gx_G := gx_mem 815 (by decide +kernel) (by decide +kernel)
theorem mw_816 : (Cond.methodLink RX6 52 yX6_comeHome) ∈ gx_G := gx_mem 816 (by decide +kernel) (by decide +kernel)
theorem mw_817 : (Cond.instanceMethod yX6_comeHome) ∈ gx_G := gx_mem 817 (by decide +kernel) (by decide +kernel)
theorem mw_818 : (Cond.selects RX6 yX6_comeHome yX6_comeHome) ∈ gx_G := gx_mem 818 (by decide +kernel) (by decide +kernel)
theorem mw_819 : (Cond.code yX6_comeHome cX6_comeHome 2 none) ∈ gx_G := gx_mem 819 (by decide +kernel) (by decide +kernel)
theorem mw_849 : (Cond.methodLink RX1 33 yX10_in) ∈ gx_G := gx_mem 849 (by decide +kernel) (by decide +kernel)
theorem mw_850 : (Cond.methodLink RX1 46 Lib.Math.min.name) ∈ gx_G := gx_mem 850 (by decide +kernel) (by decide +kernel)
theorem mw_867 : (Cond.methodLink RX1 79 yX8_nextOf) ∈ gx_G := gx_mem 867 (by decide +kernel) (by decide +kernel)
theorem mw_868 : (Cond.instanceMethod yX8_nextOf) ∈ gx_G := gx_mem 868 (by decide +kernel) (by decide +kernel)
theorem mw_869 : (Cond.selects RX8 yX8_nextOf yX8_nextOf) ∈ gx_G := gx_mem 869 (by decide +kernel) (by decide +kernel)
theorem mw_870 : (Cond.code yX8_nextOf cX8_nextOf 2 (some .int)) ∈ gx_G := gx_mem 870 (by decide +kernel) (by decide +kernel)
theorem mw_879 : (Cond.methodLink RX1 103 yX8_secondOf) ∈ gx_G := gx_mem 879 (by decide +kernel) (by decide +kernel)
theorem mw_880 : (Cond.instanceMethod yX8_secondOf) ∈ gx_G := gx_mem 880 (by decide +kernel) (by decide +kernel)
theorem mw_881 : (Cond.selects RX8 yX8_secondOf yX8_secondOf) ∈ gx_G := gx_mem 881 (by decide +kernel) (by decide +kernel)
theorem mw_882 : (Cond.code yX8_secondOf cX8_secondOf 2 (some .int)) ∈ gx_G := gx_mem 882 (by decide +kernel) (by decide +kernel)
theorem mw_883 : (Cond.methodLink RX1 115 yX6_paperOf) ∈ gx_G := gx_mem 883 (by decide +kernel) (by decide +kernel)
theorem mw_884 : (Cond.instanceMethod yX6_paperOf) ∈ gx_G := gx_mem 884 (by decide +kernel) (by decide +kernel)
theorem mw_885 : (Cond.selects RX6 yX6_paperOf yX6_paperOf) ∈ gx_G := gx_mem 885 (by decide +kernel) (by decide +kernel)
theorem mw_886 : (Cond.code yX6_paperOf cX6_paperOf 2 (some .int)) ∈ gx_G := gx_mem 886 (by decide +kernel) (by decide +kernel)
theorem mw_887 : (Cond.methodLink RX1 118 yX6_purseOf) ∈ gx_G := gx_mem 887 (by decide +kernel) (by decide +kernel)
theorem mw_888 : (Cond.instanceMethod yX6_purseOf) ∈ gx_G := gx_mem 888 (by decide +kernel) (by decide +kernel)
theorem mw_889 : (Cond.selects RX6 yX6_purseOf yX6_purseOf) ∈ gx_G := gx_mem 889 (by decide +kernel) (by decide +kernel)
theorem mw_890 : (Cond.code yX6_purseOf cX6_purseOf 2 (some .int)) ∈ gx_G := gx_mem 890 (by decide +kernel) (by decide +kernel)
theorem mw_891 : (Cond.methodLink RX1 121 yX6_at) ∈ gx_G := gx_mem 891 (by decide +kernel) (by decide +kernel)
theorem mw_892 : (Cond.instanceMethod yX6_at) ∈ gx_G := gx_mem 892 (by decide +kernel) (by decide +kernel)
theorem mw_893 : (Cond.selects RX6 yX6_at yX6_at) ∈ gx_G := gx_mem 893 (by decide +kernel) (by decide +kernel)
theorem mw_894 : (Cond.code yX6_at cX6_at 4 (some .int)) ∈ gx_G := gx_mem 894 (by decide +kernel) (by decide +kernel)
theorem mw_895 : (Cond.methodLink RX1 124 yJ6_bitCount_0f7a4) ∈ gx_G := gx_mem 895 (by decide +kernel) (by decide +kernel)
theorem mw_896 : (Cond.static yJ6_bitCount_0f7a4) ∈ gx_G := gx_mem 896 (by decide +kernel) (by decide +kernel)
theorem mw_897 : (Cond.code yJ6_bitCount_0f7a4 cJ6_bitCount_0f7a4 1 (some .int)) ∈ gx_G := gx_mem 897 (by decide +kernel) (by decide +kernel)
theorem mw_898 : (Cond.constant RJ6 265 (1431655765)) ∈ gx_G := gx_mem 898 (by decide +kernel) (by decide +kernel)
theorem mw_899 : (Cond.constant RJ6 266 (858993459)) ∈ gx_G := gx_mem 899 (by decide +kernel) (by decide +kernel)
theorem mw_900 : (Cond.constant RJ6 267 (252645135)) ∈ gx_G := gx_mem 900 (by decide +kernel) (by decide +kernel)
theorem mw_901 : (Cond.methodLink RX1 129 yX5_value) ∈ gx_G := gx_mem 901 (by decide +kernel) (by decide +kernel)
theorem mw_902 : (Cond.instanceMethod yX5_value) ∈ gx_G := gx_mem 902 (by decide +kernel) (by decide +kernel)
theorem mw_903 : (Cond.selects RX5 yX5_value yX5_value) ∈ gx_G := gx_mem 903 (by decide +kernel) (by decide +kernel)
theorem mw_904 : (Cond.code yX5_value cX5_value 7 (some .int)) ∈ gx_G := gx_mem 904 (by decide +kernel) (by decide +kernel)
theorem mw_909 : (Cond.methodLink RX1 139 yX6_setPurse) ∈ gx_G := gx_mem 909 (by decide +kernel) (by decide +kernel)
theorem mw_910 : (Cond.instanceMethod yX6_setPurse) ∈ gx_G := gx_mem 910 (by decide +kernel) (by decide +kernel)
theorem mw_911 : (Cond.selects RX6 yX6_setPurse yX6_setPurse) ∈ gx_G := gx_mem 911 (by decide +kernel) (by decide +kernel)
theorem mw_912 : (Cond.code yX6_setPurse cX6_setPurse 3 none) ∈ gx_G := gx_mem 912 (by decide +kernel) (by decide +kernel)
theorem mw_979 : (Cond.methodLink RX11 270 yX6_copy) ∈ gx_G := gx_mem 979 (by decide +kernel) (by decide +kernel)
theorem mw_1027 : (Cond.methodLink RX9 63 yX6_copy) ∈ gx_G := gx_mem 1027 (by decide +kernel) (by decide +kernel)
theorem mw_1085 : (Cond.methodLink RX9 40 yX6_clear) ∈ gx_G := gx_mem 1085 (by decide +kernel) (by decide +kernel)
theorem mw_1086 : (Cond.methodLink RX9 47 yX8_isKitchen) ∈ gx_G := gx_mem 1086 (by decide +kernel) (by decide +kernel)
theorem mw_1087 : (Cond.methodLink RX9 53 yX6_add) ∈ gx_G := gx_mem 1087 (by decide +kernel) (by decide +kernel)
theorem mw_1229 : (Cond.methodLink RX0 25 yX0_has) ∈ gx_G := gx_mem 1229 (by decide +kernel) (by decide +kernel)
theorem mw_1231 : (Cond.instanceMethod yX0_has) ∈ gx_G := gx_mem 1231 (by decide +kernel) (by decide +kernel)
theorem mw_1232 : (Cond.code yX0_has cX0_has 2 (some .boolean)) ∈ gx_G := gx_mem 1232 (by decide +kernel) (by decide +kernel)
theorem cw_X0_25 : gx_Wv RX0 25 yX0_has cX0_has 2 (some .boolean) 1 := ⟨⟨mw_1229, mw_1231, mw_38, mw_97, mw_1232⟩, by decide +kernel⟩
theorem cw_X7_28 : gx_Wv RX7 28 yX7_look cX7_look 2 (some .int) 1 := ⟨⟨mw_544, mw_545, mw_546, mw_90, mw_547⟩, by decide +kernel⟩
theorem cw_X10_29 : gx_Wv RX10 29 yX7_digit cX7_digit 3 (some .int) 1 := ⟨⟨mw_691, mw_653, mw_654, mw_90, mw_655⟩, by decide +kernel⟩
theorem cw_X10_25 : gx_Wv RX10 25 yX7_isOver cX7_isOver 2 (some .boolean) 1 := ⟨⟨mw_690, mw_532, mw_533, mw_90, mw_534⟩, by decide +kernel⟩
theorem cw_X10_19 : gx_Wv RX10 19 yX7_showAtMost cX7_showAtMost 2 none 1 := ⟨⟨mw_689, mw_525, mw_526, mw_90, mw_527⟩, by decide +kernel⟩
theorem cw_X11_270 : gx_Wv RX11 270 yX6_copy cX6_copy 3 none 1 := ⟨⟨mw_979, mw_777, mw_778, mw_95, mw_779⟩, by decide +kernel⟩
theorem cw_X11_125 : gx_Wv RX11 125 yX3_clear cX3_clear 1 none 0 := ⟨⟨mw_676, mw_677, mw_678, mw_96, mw_679⟩, by decide +kernel⟩
theorem cw_X6_52 : gx_Wv RX6 52 yX6_comeHome cX6_comeHome 2 none 1 := ⟨⟨mw_816, mw_817, mw_818, mw_95, mw_819⟩, by decide +kernel⟩
theorem cw_X9_40 : gx_Wv RX9 40 yX6_clear cX6_clear 1 none 0 := ⟨⟨mw_1085, mw_673, mw_674, mw_95, mw_675⟩, by decide +kernel⟩
theorem cw_X9_47 : gx_Wv RX9 47 yX8_isKitchen cX8_isKitchen 2 (some .boolean) 1 := ⟨⟨mw_1086, mw_809, mw_810, mw_91, mw_811⟩, by decide +kernel⟩
theorem cw_X9_53 : gx_Wv RX9 53 yX6_add cX6_add 7 (some .int) 5 := ⟨⟨mw_1087, mw_813, mw_814, mw_95, mw_815⟩, by decide +kernel⟩
theorem cw_X9_63 : gx_Wv RX9 63 yX6_copy cX6_copy 3 none 1 := ⟨⟨mw_1027, mw_777, mw_778, mw_95, mw_779⟩, by decide +kernel⟩
theorem cw_X1_33 : gx_Wv RX1 33 yX10_in cX10_in 2 (some .int) 1 := ⟨⟨mw_849, mw_761, mw_762, mw_92, mw_763⟩, by decide +kernel⟩
theorem cw_X1_129 : gx_Wv RX1 129 yX5_value cX5_value 7 (some .int) 1 := ⟨⟨mw_901, mw_902, mw_903, mw_93, mw_904⟩, by decide +kernel⟩
theorem cw_X1_115 : gx_Wv RX1 115 yX6_paperOf cX6_paperOf 2 (some .int) 1 := ⟨⟨mw_883, mw_884, mw_885, mw_95, mw_886⟩, by decide +kernel⟩
theorem cw_X1_118 : gx_Wv RX1 118 yX6_purseOf cX6_purseOf 2 (some .int) 1 := ⟨⟨mw_887, mw_888, mw_889, mw_95, mw_890⟩, by decide +kernel⟩
theorem cw_X1_121 : gx_Wv RX1 121 yX6_at cX6_at 4 (some .int) 1 := ⟨⟨mw_891, mw_892, mw_893, mw_95, mw_894⟩, by decide +kernel⟩
theorem cw_X1_124 : gx_Ws RX1 124 yJ6_bitCount_0f7a4 cJ6_bitCount_0f7a4 1 (some .int) 1 := ⟨⟨mw_895, mw_896, mw_114, mw_897⟩, by decide +kernel⟩
theorem cw_X1_79 : gx_Wv RX1 79 yX8_nextOf cX8_nextOf 2 (some .int) 1 := ⟨⟨mw_867, mw_868, mw_869, mw_91, mw_870⟩, by decide +kernel⟩
theorem cw_X1_103 : gx_Wv RX1 103 yX8_secondOf cX8_secondOf 2 (some .int) 1 := ⟨⟨mw_879, mw_880, mw_881, mw_91, mw_882⟩, by decide +kernel⟩
theorem cw_X1_139 : gx_Wv RX1 139 yX6_setPurse cX6_setPurse 3 none 2 := ⟨⟨mw_909, mw_910, mw_911, mw_95, mw_912⟩, by decide +kernel⟩
theorem t_0 : gx_tb[0]? = some (.inl (12, [some (some 1), some (some 3), some (some 9), some (some 15), some (some 17), some (some 21), some (some 25), some (some 30), some (some 37), some (some 44), some (some 151), none, some (some 152), some (some 156), some (some 158), some (some 160)])) := rfl
theorem t_1 : gx_tb[1]? = some (.inl (8, [some (some 2), none, none])) := rfl
theorem t_2 : gx_tb[2]? = some (.inr (0, 80, [])) := rfl
theorem t_3 : gx_tb[3]? = some (.inl (9, [some (some 4), some (some 5), some (some 6), some (some 7), some (some 8), none, none, none, none])) := rfl
theorem t_4 : gx_tb[4]? = some (.inr (0, 12, [])) := rfl
theorem t_5 : gx_tb[5]? = some (.inr (0, 12, [])) := rfl
theorem t_6 : gx_tb[6]? = some (.inr (0, 12, [])) := rfl
theorem t_7 : gx_tb[7]? = some (.inr (0, 12, [])) := rfl
theorem t_15 : gx_tb[15]? = some (.inl (11, [some (some 16), none])) := rfl
theorem t_16 : gx_tb[16]? = some (.inr (0, 40, [])) := rfl
theorem t_17 : gx_tb[17]? = some (.inl (6, [some (some 18), some (some 19), some (some 20), none, none, none, none, none, none, none, none])) := rfl
theorem t_18 : gx_tb[18]? = some (.inr (0, 40, [])) := rfl
theorem t_19 : gx_tb[19]? = some (.inr (0, 40, [])) := rfl
theorem t_30 : gx_tb[30]? = some (.inl (7, [some (some 31), some (some 32), some (some 33), some (some 34), some (some 35), some (some 36), none, none, none, none, none])) := rfl
theorem t_44 : gx_tb[44]? = some (.inl (4, [some (some 45), none, none])) := rfl
theorem t_151 : gx_tb[151]? = some (.inr (3, 3, [some 178, some 185, some 192])) := rfl
theorem t_152 : gx_tb[152]? = some (.inl (1, [some (some 153), some (some 154), some (some 155), none])) := rfl
theorem t_153 : gx_tb[153]? = some (.inr (0, 10, [])) := rfl
theorem t_154 : gx_tb[154]? = some (.inr (0, 10, [])) := rfl
theorem t_155 : gx_tb[155]? = some (.inr (0, 10, [])) := rfl
theorem t_158 : gx_tb[158]? = some (.inl (2, [some (some 3), some (some 15), some (some 17), some (some 159), none, none, none, none, none, none])) := rfl
theorem t_159 : gx_tb[159]? = some (.inr (0, 8, [])) := rfl
theorem t_160 : gx_tb[160]? = some (.inl (10, [some (some 3), some (some 158), some (some 161), some (some 162), some (some 163), none, none, some (some 164), some (some 171)])) := rfl
theorem t_164 : gx_tb[164]? = some (.inl (7, [some (some 165), some (some 166), some (some 167), some (some 168), some (some 169), some (some 170), none, none, none, none, none])) := rfl
theorem t_171 : gx_tb[171]? = some (.inl (7, [some (some 172), some (some 173), some (some 174), some (some 175), some (some 176), some (some 177), none, none, none, none, none])) := rfl
theorem dJ6_bitCount_0f7a4_0 : decode cJ6_bitCount_0f7a4 0 = .ok (.iload_n 0, 1) := by decide +kernel
theorem dJ6_bitCount_0f7a4_1 : decode cJ6_bitCount_0f7a4 1 = .ok (.iload_n 0, 1) := by decide +kernel
theorem dJ6_bitCount_0f7a4_2 : decode cJ6_bitCount_0f7a4 2 = .ok (.iconst 1, 1) := by decide +kernel
theorem dJ6_bitCount_0f7a4_3 : decode cJ6_bitCount_0f7a4 3 = .ok (.iushr, 1) := by decide +kernel
theorem dJ6_bitCount_0f7a4_4 : decode cJ6_bitCount_0f7a4 4 = .ok (.ldc_w 265, 3) := by decide +kernel
theorem dJ6_bitCount_0f7a4_7 : decode cJ6_bitCount_0f7a4 7 = .ok (.iand, 1) := by decide +kernel
theorem dJ6_bitCount_0f7a4_8 : decode cJ6_bitCount_0f7a4 8 = .ok (.isub, 1) := by decide +kernel
theorem dJ6_bitCount_0f7a4_9 : decode cJ6_bitCount_0f7a4 9 = .ok (.istore_n 0, 1) := by decide +kernel
theorem dJ6_bitCount_0f7a4_10 : decode cJ6_bitCount_0f7a4 10 = .ok (.iload_n 0, 1) := by decide +kernel
theorem dJ6_bitCount_0f7a4_11 : decode cJ6_bitCount_0f7a4 11 = .ok (.ldc_w 266, 3) := by decide +kernel
theorem dJ6_bitCount_0f7a4_14 : decode cJ6_bitCount_0f7a4 14 = .ok (.iand, 1) := by decide +kernel
theorem dJ6_bitCount_0f7a4_15 : decode cJ6_bitCount_0f7a4 15 = .ok (.iload_n 0, 1) := by decide +kernel
theorem dJ6_bitCount_0f7a4_16 : decode cJ6_bitCount_0f7a4 16 = .ok (.iconst 2, 1) := by decide +kernel
theorem dJ6_bitCount_0f7a4_17 : decode cJ6_bitCount_0f7a4 17 = .ok (.iushr, 1) := by decide +kernel
theorem dJ6_bitCount_0f7a4_18 : decode cJ6_bitCount_0f7a4 18 = .ok (.ldc_w 266, 3) := by decide +kernel
theorem dJ6_bitCount_0f7a4_21 : decode cJ6_bitCount_0f7a4 21 = .ok (.iand, 1) := by decide +kernel
theorem dJ6_bitCount_0f7a4_22 : decode cJ6_bitCount_0f7a4 22 = .ok (.iadd, 1) := by decide +kernel
theorem dJ6_bitCount_0f7a4_23 : decode cJ6_bitCount_0f7a4 23 = .ok (.istore_n 0, 1) := by decide +kernel
theorem dJ6_bitCount_0f7a4_24 : decode cJ6_bitCount_0f7a4 24 = .ok (.iload_n 0, 1) := by decide +kernel
theorem dJ6_bitCount_0f7a4_25 : decode cJ6_bitCount_0f7a4 25 = .ok (.iload_n 0, 1) := by decide +kernel
theorem dJ6_bitCount_0f7a4_26 : decode cJ6_bitCount_0f7a4 26 = .ok (.iconst 4, 1) := by decide +kernel
theorem dJ6_bitCount_0f7a4_27 : decode cJ6_bitCount_0f7a4 27 = .ok (.iushr, 1) := by decide +kernel
theorem dJ6_bitCount_0f7a4_28 : decode cJ6_bitCount_0f7a4 28 = .ok (.iadd, 1) := by decide +kernel
theorem dJ6_bitCount_0f7a4_29 : decode cJ6_bitCount_0f7a4 29 = .ok (.ldc_w 267, 3) := by decide +kernel
theorem dJ6_bitCount_0f7a4_32 : decode cJ6_bitCount_0f7a4 32 = .ok (.iand, 1) := by decide +kernel
theorem dJ6_bitCount_0f7a4_33 : decode cJ6_bitCount_0f7a4 33 = .ok (.istore_n 0, 1) := by decide +kernel
theorem dJ6_bitCount_0f7a4_34 : decode cJ6_bitCount_0f7a4 34 = .ok (.iload_n 0, 1) := by decide +kernel
theorem dJ6_bitCount_0f7a4_35 : decode cJ6_bitCount_0f7a4 35 = .ok (.iload_n 0, 1) := by decide +kernel
theorem dJ6_bitCount_0f7a4_36 : decode cJ6_bitCount_0f7a4 36 = .ok (.bipush 8, 2) := by decide +kernel
theorem dJ6_bitCount_0f7a4_38 : decode cJ6_bitCount_0f7a4 38 = .ok (.iushr, 1) := by decide +kernel
theorem dJ6_bitCount_0f7a4_39 : decode cJ6_bitCount_0f7a4 39 = .ok (.iadd, 1) := by decide +kernel
theorem dJ6_bitCount_0f7a4_40 : decode cJ6_bitCount_0f7a4 40 = .ok (.istore_n 0, 1) := by decide +kernel
theorem dJ6_bitCount_0f7a4_41 : decode cJ6_bitCount_0f7a4 41 = .ok (.iload_n 0, 1) := by decide +kernel
theorem dJ6_bitCount_0f7a4_42 : decode cJ6_bitCount_0f7a4 42 = .ok (.iload_n 0, 1) := by decide +kernel
theorem dJ6_bitCount_0f7a4_43 : decode cJ6_bitCount_0f7a4 43 = .ok (.bipush 16, 2) := by decide +kernel
theorem dJ6_bitCount_0f7a4_45 : decode cJ6_bitCount_0f7a4 45 = .ok (.iushr, 1) := by decide +kernel
theorem dJ6_bitCount_0f7a4_46 : decode cJ6_bitCount_0f7a4 46 = .ok (.iadd, 1) := by decide +kernel
theorem dJ6_bitCount_0f7a4_47 : decode cJ6_bitCount_0f7a4 47 = .ok (.istore_n 0, 1) := by decide +kernel
theorem dJ6_bitCount_0f7a4_48 : decode cJ6_bitCount_0f7a4 48 = .ok (.iload_n 0, 1) := by decide +kernel
theorem dJ6_bitCount_0f7a4_49 : decode cJ6_bitCount_0f7a4 49 = .ok (.bipush 63, 2) := by decide +kernel
theorem dJ6_bitCount_0f7a4_51 : decode cJ6_bitCount_0f7a4 51 = .ok (.iand, 1) := by decide +kernel
theorem dJ6_bitCount_0f7a4_52 : decode cJ6_bitCount_0f7a4 52 = .ok (.ireturn, 1) := by decide +kernel
theorem dX0_add_0 : decode cX0_add 0 = .ok (.aload_n 0, 1) := by decide +kernel
theorem dX0_add_1 : decode cX0_add 1 = .ok (.getfield 21, 3) := by decide +kernel
theorem dX0_add_4 : decode cX0_add 4 = .ok (.ifCond .lt 12, 3) := by decide +kernel
theorem dX0_add_7 : decode cX0_add 7 = .ok (.aload_n 0, 1) := by decide +kernel
theorem dX0_add_8 : decode cX0_add 8 = .ok (.getfield 21, 3) := by decide +kernel
theorem dX0_add_11 : decode cX0_add 11 = .ok (.bipush 10, 2) := by decide +kernel
theorem dX0_add_13 : decode cX0_add 13 = .ok (.if_icmp .lt 5, 3) := by decide +kernel
theorem dX0_add_16 : decode cX0_add 16 = .ok (.iconst 0, 1) := by decide +kernel
theorem dX0_add_17 : decode cX0_add 17 = .ok (.ireturn, 1) := by decide +kernel
theorem dX0_add_18 : decode cX0_add 18 = .ok (.aload_n 0, 1) := by decide +kernel
theorem dX0_add_19 : decode cX0_add 19 = .ok (.getfield 9, 3) := by decide +kernel
theorem dX0_add_22 : decode cX0_add 22 = .ok (.aload_n 0, 1) := by decide +kernel
theorem dX0_add_23 : decode cX0_add 23 = .ok (.getfield 21, 3) := by decide +kernel
theorem dX0_add_26 : decode cX0_add 26 = .ok (.iload_n 1, 1) := by decide +kernel
theorem dX0_add_27 : decode cX0_add 27 = .ok (.iastore, 1) := by decide +kernel
theorem dX0_add_28 : decode cX0_add 28 = .ok (.aload_n 0, 1) := by decide +kernel
theorem dX0_add_29 : decode cX0_add 29 = .ok (.getfield 15, 3) := by decide +kernel
theorem dX0_add_32 : decode cX0_add 32 = .ok (.aload_n 0, 1) := by decide +kernel
theorem dX0_add_33 : decode cX0_add 33 = .ok (.getfield 21, 3) := by decide +kernel
theorem dX0_add_36 : decode cX0_add 36 = .ok (.iload_n 2, 1) := by decide +kernel
theorem dX0_add_37 : decode cX0_add 37 = .ok (.iastore, 1) := by decide +kernel
theorem dX0_add_38 : decode cX0_add 38 = .ok (.aload_n 0, 1) := by decide +kernel
theorem dX0_add_39 : decode cX0_add 39 = .ok (.getfield 18, 3) := by decide +kernel
theorem dX0_add_42 : decode cX0_add 42 = .ok (.aload_n 0, 1) := by decide +kernel
theorem dX0_add_43 : decode cX0_add 43 = .ok (.getfield 21, 3) := by decide +kernel
theorem dX0_add_46 : decode cX0_add 46 = .ok (.iload_n 3, 1) := by decide +kernel
theorem dX0_add_47 : decode cX0_add 47 = .ok (.iastore, 1) := by decide +kernel
theorem dX0_add_48 : decode cX0_add 48 = .ok (.aload_n 0, 1) := by decide +kernel
theorem dX0_add_49 : decode cX0_add 49 = .ok (.dup, 1) := by decide +kernel
theorem dX0_add_50 : decode cX0_add 50 = .ok (.getfield 21, 3) := by decide +kernel
theorem dX0_add_53 : decode cX0_add 53 = .ok (.iconst 1, 1) := by decide +kernel
theorem dX0_add_54 : decode cX0_add 54 = .ok (.iadd, 1) := by decide +kernel
theorem dX0_add_55 : decode cX0_add 55 = .ok (.putfield 21, 3) := by decide +kernel
theorem dX0_add_58 : decode cX0_add 58 = .ok (.iconst 1, 1) := by decide +kernel
theorem dX0_add_59 : decode cX0_add 59 = .ok (.ireturn, 1) := by decide +kernel
theorem dX0_endOf_0 : decode cX0_endOf 0 = .ok (.aload_n 0, 1) := by decide +kernel
theorem dX0_endOf_1 : decode cX0_endOf 1 = .ok (.iload_n 1, 1) := by decide +kernel
theorem dX0_endOf_2 : decode cX0_endOf 2 = .ok (.invokevirtual 25, 3) := by decide +kernel
theorem dX0_endOf_5 : decode cX0_endOf 5 = .ok (.ifCond .eq 12, 3) := by decide +kernel
theorem dX0_endOf_8 : decode cX0_endOf 8 = .ok (.aload_n 0, 1) := by decide +kernel
theorem dX0_endOf_9 : decode cX0_endOf 9 = .ok (.getfield 18, 3) := by decide +kernel
theorem dX0_endOf_12 : decode cX0_endOf 12 = .ok (.iload_n 1, 1) := by decide +kernel
theorem dX0_endOf_13 : decode cX0_endOf 13 = .ok (.iaload, 1) := by decide +kernel
theorem dX0_endOf_14 : decode cX0_endOf 14 = .ok (.goto 4, 3) := by decide +kernel
theorem dX0_endOf_17 : decode cX0_endOf 17 = .ok (.iconst (-1), 1) := by decide +kernel
theorem dX0_endOf_18 : decode cX0_endOf 18 = .ok (.ireturn, 1) := by decide +kernel
theorem dX0_has_0 : decode cX0_has 0 = .ok (.iload_n 1, 1) := by decide +kernel
theorem dX0_has_1 : decode cX0_has 1 = .ok (.ifCond .lt 21, 3) := by decide +kernel
theorem dX0_has_4 : decode cX0_has 4 = .ok (.iload_n 1, 1) := by decide +kernel
theorem dX0_has_5 : decode cX0_has 5 = .ok (.aload_n 0, 1) := by decide +kernel
theorem dX0_has_6 : decode cX0_has 6 = .ok (.getfield 21, 3) := by decide +kernel
theorem dX0_has_9 : decode cX0_has 9 = .ok (.if_icmp .ge 13, 3) := by decide +kernel
theorem dX0_has_12 : decode cX0_has 12 = .ok (.iload_n 1, 1) := by decide +kernel
theorem dX0_has_13 : decode cX0_has 13 = .ok (.bipush 10, 2) := by decide +kernel
theorem dX0_has_15 : decode cX0_has 15 = .ok (.if_icmp .ge 7, 3) := by decide +kernel
theorem dX0_has_18 : decode cX0_has 18 = .ok (.iconst 1, 1) := by decide +kernel
theorem dX0_has_19 : decode cX0_has 19 = .ok (.goto 4, 3) := by decide +kernel
theorem dX0_has_22 : decode cX0_has 22 = .ok (.iconst 0, 1) := by decide +kernel
theorem dX0_has_23 : decode cX0_has 23 = .ok (.ireturn, 1) := by decide +kernel
theorem dX0_minuteOf_0 : decode cX0_minuteOf 0 = .ok (.aload_n 0, 1) := by decide +kernel
theorem dX0_minuteOf_1 : decode cX0_minuteOf 1 = .ok (.iload_n 1, 1) := by decide +kernel
theorem dX0_minuteOf_2 : decode cX0_minuteOf 2 = .ok (.invokevirtual 25, 3) := by decide +kernel
theorem dX0_minuteOf_5 : decode cX0_minuteOf 5 = .ok (.ifCond .eq 12, 3) := by decide +kernel
theorem dX0_minuteOf_8 : decode cX0_minuteOf 8 = .ok (.aload_n 0, 1) := by decide +kernel
theorem dX0_minuteOf_9 : decode cX0_minuteOf 9 = .ok (.getfield 15, 3) := by decide +kernel
theorem dX0_minuteOf_12 : decode cX0_minuteOf 12 = .ok (.iload_n 1, 1) := by decide +kernel
theorem dX0_minuteOf_13 : decode cX0_minuteOf 13 = .ok (.iaload, 1) := by decide +kernel
theorem dX0_minuteOf_14 : decode cX0_minuteOf 14 = .ok (.goto 4, 3) := by decide +kernel
theorem dX0_minuteOf_17 : decode cX0_minuteOf 17 = .ok (.iconst 0, 1) := by decide +kernel
theorem dX0_minuteOf_18 : decode cX0_minuteOf 18 = .ok (.ireturn, 1) := by decide +kernel
theorem dX0_spotOf_0 : decode cX0_spotOf 0 = .ok (.aload_n 0, 1) := by decide +kernel
theorem dX0_spotOf_1 : decode cX0_spotOf 1 = .ok (.iload_n 1, 1) := by decide +kernel
theorem dX0_spotOf_2 : decode cX0_spotOf 2 = .ok (.invokevirtual 25, 3) := by decide +kernel
theorem dX0_spotOf_5 : decode cX0_spotOf 5 = .ok (.ifCond .eq 12, 3) := by decide +kernel
theorem dX0_spotOf_8 : decode cX0_spotOf 8 = .ok (.aload_n 0, 1) := by decide +kernel
theorem dX0_spotOf_9 : decode cX0_spotOf 9 = .ok (.getfield 9, 3) := by decide +kernel
theorem dX0_spotOf_12 : decode cX0_spotOf 12 = .ok (.iload_n 1, 1) := by decide +kernel
theorem dX0_spotOf_13 : decode cX0_spotOf 13 = .ok (.iaload, 1) := by decide +kernel
theorem dX0_spotOf_14 : decode cX0_spotOf 14 = .ok (.goto 4, 3) := by decide +kernel
theorem dX0_spotOf_17 : decode cX0_spotOf 17 = .ok (.iconst 0, 1) := by decide +kernel
theorem dX0_spotOf_18 : decode cX0_spotOf 18 = .ok (.ireturn, 1) := by decide +kernel
theorem dX10_in_0 : decode cX10_in 0 = .ok (.aload_n 0, 1) := by decide +kernel
theorem dX10_in_1 : decode cX10_in 1 = .ok (.getfield 15, 3) := by decide +kernel
theorem dX10_in_4 : decode cX10_in 4 = .ok (.ifCond .le 16, 3) := by decide +kernel
theorem dX10_in_7 : decode cX10_in 7 = .ok (.aload_n 0, 1) := by decide +kernel
theorem dX10_in_8 : decode cX10_in 8 = .ok (.getfield 15, 3) := by decide +kernel
theorem dX10_in_11 : decode cX10_in 11 = .ok (.bipush 40, 2) := by decide +kernel
theorem dX10_in_13 : decode cX10_in 13 = .ok (.if_icmp .gt 7, 3) := by decide +kernel
theorem dX10_in_16 : decode cX10_in 16 = .ok (.iload_n 1, 1) := by decide +kernel
theorem dX10_in_17 : decode cX10_in 17 = .ok (.ifCond .ge 5, 3) := by decide +kernel
theorem dX10_in_20 : decode cX10_in 20 = .ok (.iconst 1, 1) := by decide +kernel
theorem dX10_in_21 : decode cX10_in 21 = .ok (.ireturn, 1) := by decide +kernel
theorem dX10_in_22 : decode cX10_in 22 = .ok (.aload_n 0, 1) := by decide +kernel
theorem dX10_in_23 : decode cX10_in 23 = .ok (.getfield 11, 3) := by decide +kernel
theorem dX10_in_26 : decode cX10_in 26 = .ok (.iload_n 1, 1) := by decide +kernel
theorem dX10_in_27 : decode cX10_in 27 = .ok (.bipush 10, 2) := by decide +kernel
theorem dX10_in_29 : decode cX10_in 29 = .ok (.idiv, 1) := by decide +kernel
theorem dX10_in_30 : decode cX10_in 30 = .ok (.aload_n 0, 1) := by decide +kernel
theorem dX10_in_31 : decode cX10_in 31 = .ok (.getfield 15, 3) := by decide +kernel
theorem dX10_in_34 : decode cX10_in 34 = .ok (.irem, 1) := by decide +kernel
theorem dX10_in_35 : decode cX10_in 35 = .ok (.iaload, 1) := by decide +kernel
theorem dX10_in_36 : decode cX10_in 36 = .ok (.ireturn, 1) := by decide +kernel
theorem dX10_read_0 : decode cX10_read 0 = .ok (.aload_n 1, 1) := by decide +kernel
theorem dX10_read_1 : decode cX10_read 1 = .ok (.bipush 40, 2) := by decide +kernel
theorem dX10_read_3 : decode cX10_read 3 = .ok (.invokevirtual 19, 3) := by decide +kernel
theorem dX10_read_6 : decode cX10_read 6 = .ok (.iconst 0, 1) := by decide +kernel
theorem dX10_read_7 : decode cX10_read 7 = .ok (.istore_n 2, 1) := by decide +kernel
theorem dX10_read_8 : decode cX10_read 8 = .ok (.iload_n 2, 1) := by decide +kernel
theorem dX10_read_9 : decode cX10_read 9 = .ok (.bipush 40, 2) := by decide +kernel
theorem dX10_read_11 : decode cX10_read 11 = .ok (.if_icmp .gt 36, 3) := by decide +kernel
theorem dX10_read_14 : decode cX10_read 14 = .ok (.aload_n 1, 1) := by decide +kernel
theorem dX10_read_15 : decode cX10_read 15 = .ok (.iload_n 2, 1) := by decide +kernel
theorem dX10_read_16 : decode cX10_read 16 = .ok (.invokevirtual 25, 3) := by decide +kernel
theorem dX10_read_19 : decode cX10_read 19 = .ok (.ifCond .ne 28, 3) := by decide +kernel
theorem dX10_read_22 : decode cX10_read 22 = .ok (.aload_n 1, 1) := by decide +kernel
theorem dX10_read_23 : decode cX10_read 23 = .ok (.iload_n 2, 1) := by decide +kernel
theorem dX10_read_24 : decode cX10_read 24 = .ok (.invokevirtual 29, 3) := by decide +kernel
theorem dX10_read_27 : decode cX10_read 27 = .ok (.istore_n 3, 1) := by decide +kernel
theorem dX10_read_28 : decode cX10_read 28 = .ok (.iload_n 3, 1) := by decide +kernel
theorem dX10_read_29 : decode cX10_read 29 = .ok (.ifCond .lt 8, 3) := by decide +kernel
theorem dX10_read_32 : decode cX10_read 32 = .ok (.iload_n 3, 1) := by decide +kernel
theorem dX10_read_33 : decode cX10_read 33 = .ok (.iconst 3, 1) := by decide +kernel
theorem dX10_read_34 : decode cX10_read 34 = .ok (.if_icmp .le 7, 3) := by decide +kernel
theorem dX10_read_37 : decode cX10_read 37 = .ok (.iconst (-1), 1) := by decide +kernel
theorem dX10_read_38 : decode cX10_read 38 = .ok (.iload_n 2, 1) := by decide +kernel
theorem dX10_read_39 : decode cX10_read 39 = .ok (.isub, 1) := by decide +kernel
theorem dX10_read_40 : decode cX10_read 40 = .ok (.ireturn, 1) := by decide +kernel
theorem dX10_read_41 : decode cX10_read 41 = .ok (.iinc 2 1, 3) := by decide +kernel
theorem dX10_read_44 : decode cX10_read 44 = .ok (.goto (-36), 3) := by decide +kernel
theorem dX10_read_47 : decode cX10_read 47 = .ok (.aload_n 0, 1) := by decide +kernel
theorem dX10_read_48 : decode cX10_read 48 = .ok (.aload_n 1, 1) := by decide +kernel
theorem dX10_read_49 : decode cX10_read 49 = .ok (.getfield 33, 3) := by decide +kernel
theorem dX10_read_52 : decode cX10_read 52 = .ok (.bipush 40, 2) := by decide +kernel
theorem dX10_read_54 : decode cX10_read 54 = .ok (.invokestatic 34, 3) := by decide +kernel
theorem dX10_read_57 : decode cX10_read 57 = .ok (.putfield 15, 3) := by decide +kernel
theorem dX10_read_60 : decode cX10_read 60 = .ok (.iconst 0, 1) := by decide +kernel
theorem dX10_read_61 : decode cX10_read 61 = .ok (.istore_n 2, 1) := by decide +kernel
theorem dX10_read_62 : decode cX10_read 62 = .ok (.iload_n 2, 1) := by decide +kernel
theorem dX10_read_63 : decode cX10_read 63 = .ok (.aload_n 0, 1) := by decide +kernel
theorem dX10_read_64 : decode cX10_read 64 = .ok (.getfield 15, 3) := by decide +kernel
theorem dX10_read_67 : decode cX10_read 67 = .ok (.if_icmp .ge 20, 3) := by decide +kernel
theorem dX10_read_70 : decode cX10_read 70 = .ok (.aload_n 0, 1) := by decide +kernel
theorem dX10_read_71 : decode cX10_read 71 = .ok (.getfield 11, 3) := by decide +kernel
theorem dX10_read_74 : decode cX10_read 74 = .ok (.iload_n 2, 1) := by decide +kernel
theorem dX10_read_75 : decode cX10_read 75 = .ok (.aload_n 1, 1) := by decide +kernel
theorem dX10_read_76 : decode cX10_read 76 = .ok (.iload_n 2, 1) := by decide +kernel
theorem dX10_read_77 : decode cX10_read 77 = .ok (.invokevirtual 29, 3) := by decide +kernel
theorem dX10_read_80 : decode cX10_read 80 = .ok (.iastore, 1) := by decide +kernel
theorem dX10_read_81 : decode cX10_read 81 = .ok (.iinc 2 1, 3) := by decide +kernel
theorem dX10_read_84 : decode cX10_read 84 = .ok (.goto (-22), 3) := by decide +kernel
theorem dX10_read_87 : decode cX10_read 87 = .ok (.aload_n 0, 1) := by decide +kernel
theorem dX10_read_88 : decode cX10_read 88 = .ok (.getfield 15, 3) := by decide +kernel
theorem dX10_read_91 : decode cX10_read 91 = .ok (.ireturn, 1) := by decide +kernel
theorem dX11_again_0 : decode cX11_again 0 = .ok (.iload_n 1, 1) := by decide +kernel
theorem dX11_again_1 : decode cX11_again 1 = .ok (.ifCond .lt 19, 3) := by decide +kernel
theorem dX11_again_4 : decode cX11_again 4 = .ok (.iload_n 1, 1) := by decide +kernel
theorem dX11_again_5 : decode cX11_again 5 = .ok (.iconst 3, 1) := by decide +kernel
theorem dX11_again_6 : decode cX11_again 6 = .ok (.if_icmp .ge 14, 3) := by decide +kernel
theorem dX11_again_9 : decode cX11_again 9 = .ok (.aload_n 0, 1) := by decide +kernel
theorem dX11_again_10 : decode cX11_again 10 = .ok (.getfield 129, 3) := by decide +kernel
theorem dX11_again_13 : decode cX11_again 13 = .ok (.iload_n 1, 1) := by decide +kernel
theorem dX11_again_14 : decode cX11_again 14 = .ok (.ishr, 1) := by decide +kernel
theorem dX11_again_15 : decode cX11_again 15 = .ok (.iconst 1, 1) := by decide +kernel
theorem dX11_again_16 : decode cX11_again 16 = .ok (.iand, 1) := by decide +kernel
theorem dX11_again_17 : decode cX11_again 17 = .ok (.ifCond .ne 5, 3) := by decide +kernel
theorem dX11_again_20 : decode cX11_again 20 = .ok (.iconst 0, 1) := by decide +kernel
theorem dX11_again_21 : decode cX11_again 21 = .ok (.ireturn, 1) := by decide +kernel
theorem dX11_again_22 : decode cX11_again 22 = .ok (.aload_n 0, 1) := by decide +kernel
theorem dX11_again_23 : decode cX11_again 23 = .ok (.getfield 53, 3) := by decide +kernel
theorem dX11_again_26 : decode cX11_again 26 = .ok (.aload_n 0, 1) := by decide +kernel
theorem dX11_again_27 : decode cX11_again 27 = .ok (.getfield 67, 3) := by decide +kernel
theorem dX11_again_30 : decode cX11_again 30 = .ok (.iload_n 1, 1) := by decide +kernel
theorem dX11_again_31 : decode cX11_again 31 = .ok (.aaload, 1) := by decide +kernel
theorem dX11_again_32 : decode cX11_again 32 = .ok (.invokevirtual 270, 3) := by decide +kernel
theorem dX11_again_35 : decode cX11_again 35 = .ok (.aload_n 0, 1) := by decide +kernel
theorem dX11_again_36 : decode cX11_again 36 = .ok (.getfield 63, 3) := by decide +kernel
theorem dX11_again_39 : decode cX11_again 39 = .ok (.invokevirtual 125, 3) := by decide +kernel
theorem dX11_again_42 : decode cX11_again 42 = .ok (.iconst 1, 1) := by decide +kernel
theorem dX11_again_43 : decode cX11_again 43 = .ok (.ireturn, 1) := by decide +kernel
theorem dX11_isLoad_0 : decode cX11_isLoad 0 = .ok (.iload_n 0, 1) := by decide +kernel
theorem dX11_isLoad_1 : decode cX11_isLoad 1 = .ok (.ifCond .lt 23, 3) := by decide +kernel
theorem dX11_isLoad_4 : decode cX11_isLoad 4 = .ok (.iload_n 0, 1) := by decide +kernel
theorem dX11_isLoad_5 : decode cX11_isLoad 5 = .ok (.bipush 99, 2) := by decide +kernel
theorem dX11_isLoad_7 : decode cX11_isLoad 7 = .ok (.if_icmp .gt 17, 3) := by decide +kernel
theorem dX11_isLoad_10 : decode cX11_isLoad 10 = .ok (.iload_n 1, 1) := by decide +kernel
theorem dX11_isLoad_11 : decode cX11_isLoad 11 = .ok (.ifCond .lt 13, 3) := by decide +kernel
theorem dX11_isLoad_14 : decode cX11_isLoad 14 = .ok (.iload_n 1, 1) := by decide +kernel
theorem dX11_isLoad_15 : decode cX11_isLoad 15 = .ok (.bipush 9, 2) := by decide +kernel
theorem dX11_isLoad_17 : decode cX11_isLoad 17 = .ok (.if_icmp .gt 7, 3) := by decide +kernel
theorem dX11_isLoad_20 : decode cX11_isLoad 20 = .ok (.iconst 1, 1) := by decide +kernel
theorem dX11_isLoad_21 : decode cX11_isLoad 21 = .ok (.goto 4, 3) := by decide +kernel
theorem dX11_isLoad_24 : decode cX11_isLoad 24 = .ok (.iconst 0, 1) := by decide +kernel
theorem dX11_isLoad_25 : decode cX11_isLoad 25 = .ok (.ireturn, 1) := by decide +kernel
theorem dX1_flowIn_0 : decode cX1_flowIn 0 = .ok (.aload_n 0, 1) := by decide +kernel
theorem dX1_flowIn_1 : decode cX1_flowIn 1 = .ok (.getfield 21, 3) := by decide +kernel
theorem dX1_flowIn_4 : decode cX1_flowIn 4 = .ok (.iload_n 1, 1) := by decide +kernel
theorem dX1_flowIn_5 : decode cX1_flowIn 5 = .ok (.invokevirtual 33, 3) := by decide +kernel
theorem dX1_flowIn_8 : decode cX1_flowIn 8 = .ok (.istore_n 2, 1) := by decide +kernel
theorem dX1_flowIn_9 : decode cX1_flowIn 9 = .ok (.aload_n 0, 1) := by decide +kernel
theorem dX1_flowIn_10 : decode cX1_flowIn 10 = .ok (.getfield 39, 3) := by decide +kernel
theorem dX1_flowIn_13 : decode cX1_flowIn 13 = .ok (.ifCond .ne 5, 3) := by decide +kernel
theorem dX1_flowIn_16 : decode cX1_flowIn 16 = .ok (.iload_n 2, 1) := by decide +kernel
theorem dX1_flowIn_17 : decode cX1_flowIn 17 = .ok (.ireturn, 1) := by decide +kernel
theorem dX1_flowIn_18 : decode cX1_flowIn 18 = .ok (.iload_n 1, 1) := by decide +kernel
theorem dX1_flowIn_19 : decode cX1_flowIn 19 = .ok (.bipush 10, 2) := by decide +kernel
theorem dX1_flowIn_21 : decode cX1_flowIn 21 = .ok (.idiv, 1) := by decide +kernel
theorem dX1_flowIn_22 : decode cX1_flowIn 22 = .ok (.aload_n 0, 1) := by decide +kernel
theorem dX1_flowIn_23 : decode cX1_flowIn 23 = .ok (.getfield 43, 3) := by decide +kernel
theorem dX1_flowIn_26 : decode cX1_flowIn 26 = .ok (.isub, 1) := by decide +kernel
theorem dX1_flowIn_27 : decode cX1_flowIn 27 = .ok (.istore_n 3, 1) := by decide +kernel
theorem dX1_flowIn_28 : decode cX1_flowIn 28 = .ok (.iload_n 3, 1) := by decide +kernel
theorem dX1_flowIn_29 : decode cX1_flowIn 29 = .ok (.ifCond .lt 24, 3) := by decide +kernel
theorem dX1_flowIn_32 : decode cX1_flowIn 32 = .ok (.iload_n 3, 1) := by decide +kernel
theorem dX1_flowIn_33 : decode cX1_flowIn 33 = .ok (.bipush 31, 2) := by decide +kernel
theorem dX1_flowIn_35 : decode cX1_flowIn 35 = .ok (.if_icmp .ge 18, 3) := by decide +kernel
theorem dX1_flowIn_38 : decode cX1_flowIn 38 = .ok (.aload_n 0, 1) := by decide +kernel
theorem dX1_flowIn_39 : decode cX1_flowIn 39 = .ok (.getfield 39, 3) := by decide +kernel
theorem dX1_flowIn_42 : decode cX1_flowIn 42 = .ok (.iload_n 3, 1) := by decide +kernel
theorem dX1_flowIn_43 : decode cX1_flowIn 43 = .ok (.ishr, 1) := by decide +kernel
theorem dX1_flowIn_44 : decode cX1_flowIn 44 = .ok (.iconst 1, 1) := by decide +kernel
theorem dX1_flowIn_45 : decode cX1_flowIn 45 = .ok (.iand, 1) := by decide +kernel
theorem dX1_flowIn_46 : decode cX1_flowIn 46 = .ok (.ifCond .eq 7, 3) := by decide +kernel
theorem dX1_flowIn_49 : decode cX1_flowIn 49 = .ok (.iconst 1, 1) := by decide +kernel
theorem dX1_flowIn_50 : decode cX1_flowIn 50 = .ok (.goto 4, 3) := by decide +kernel
theorem dX1_flowIn_53 : decode cX1_flowIn 53 = .ok (.iconst 0, 1) := by decide +kernel
theorem dX1_flowIn_54 : decode cX1_flowIn 54 = .ok (.istore 4, 2) := by decide +kernel
theorem dX1_flowIn_56 : decode cX1_flowIn 56 = .ok (.iload 4, 2) := by decide +kernel
theorem dX1_flowIn_58 : decode cX1_flowIn 58 = .ok (.ifCond .eq 13, 3) := by decide +kernel
theorem dX1_flowIn_61 : decode cX1_flowIn 61 = .ok (.iconst 3, 1) := by decide +kernel
theorem dX1_flowIn_62 : decode cX1_flowIn 62 = .ok (.iload_n 2, 1) := by decide +kernel
theorem dX1_flowIn_63 : decode cX1_flowIn 63 = .ok (.iconst 1, 1) := by decide +kernel
theorem dX1_flowIn_64 : decode cX1_flowIn 64 = .ok (.iadd, 1) := by decide +kernel
theorem dX1_flowIn_65 : decode cX1_flowIn 65 = .ok (.invokestatic 46, 3) := by decide +kernel
theorem dX1_flowIn_68 : decode cX1_flowIn 68 = .ok (.goto 4, 3) := by decide +kernel
theorem dX1_flowIn_71 : decode cX1_flowIn 71 = .ok (.iload_n 2, 1) := by decide +kernel
theorem dX1_flowIn_72 : decode cX1_flowIn 72 = .ok (.ireturn, 1) := by decide +kernel
theorem dX1_pays_0 : decode cX1_pays 0 = .ok (.aload_n 1, 1) := by decide +kernel
theorem dX1_pays_1 : decode cX1_pays 1 = .ok (.iload_n 2, 1) := by decide +kernel
theorem dX1_pays_2 : decode cX1_pays 2 = .ok (.invokevirtual 118, 3) := by decide +kernel
theorem dX1_pays_5 : decode cX1_pays 5 = .ok (.istore 4, 2) := by decide +kernel
theorem dX1_pays_7 : decode cX1_pays 7 = .ok (.iload 4, 2) := by decide +kernel
theorem dX1_pays_9 : decode cX1_pays 9 = .ok (.iload_n 3, 1) := by decide +kernel
theorem dX1_pays_10 : decode cX1_pays 10 = .ok (.if_icmp .ge 17, 3) := by decide +kernel
theorem dX1_pays_13 : decode cX1_pays 13 = .ok (.aload_n 0, 1) := by decide +kernel
theorem dX1_pays_14 : decode cX1_pays 14 = .ok (.dup, 1) := by decide +kernel
theorem dX1_pays_15 : decode cX1_pays 15 = .ok (.getfield 133, 3) := by decide +kernel
theorem dX1_pays_18 : decode cX1_pays 18 = .ok (.iconst 1, 1) := by decide +kernel
theorem dX1_pays_19 : decode cX1_pays 19 = .ok (.iload_n 2, 1) := by decide +kernel
theorem dX1_pays_20 : decode cX1_pays 20 = .ok (.ishl, 1) := by decide +kernel
theorem dX1_pays_21 : decode cX1_pays 21 = .ok (.ior, 1) := by decide +kernel
theorem dX1_pays_22 : decode cX1_pays 22 = .ok (.putfield 133, 3) := by decide +kernel
theorem dX1_pays_25 : decode cX1_pays 25 = .ok (.iconst 0, 1) := by decide +kernel
theorem dX1_pays_26 : decode cX1_pays 26 = .ok (.ireturn, 1) := by decide +kernel
theorem dX1_pays_27 : decode cX1_pays 27 = .ok (.aload_n 0, 1) := by decide +kernel
theorem dX1_pays_28 : decode cX1_pays 28 = .ok (.getfield 136, 3) := by decide +kernel
theorem dX1_pays_31 : decode cX1_pays 31 = .ok (.ifCond .ne 12, 3) := by decide +kernel
theorem dX1_pays_34 : decode cX1_pays 34 = .ok (.aload_n 1, 1) := by decide +kernel
theorem dX1_pays_35 : decode cX1_pays 35 = .ok (.iload_n 2, 1) := by decide +kernel
theorem dX1_pays_36 : decode cX1_pays 36 = .ok (.iload 4, 2) := by decide +kernel
theorem dX1_pays_38 : decode cX1_pays 38 = .ok (.iload_n 3, 1) := by decide +kernel
theorem dX1_pays_39 : decode cX1_pays 39 = .ok (.isub, 1) := by decide +kernel
theorem dX1_pays_40 : decode cX1_pays 40 = .ok (.invokevirtual 139, 3) := by decide +kernel
theorem dX1_pays_43 : decode cX1_pays 43 = .ok (.iconst 1, 1) := by decide +kernel
theorem dX1_pays_44 : decode cX1_pays 44 = .ok (.ireturn, 1) := by decide +kernel
theorem dX1_wayOf_0 : decode cX1_wayOf 0 = .ok (.aload_n 0, 1) := by decide +kernel
theorem dX1_wayOf_1 : decode cX1_wayOf 1 = .ok (.getfield 17, 3) := by decide +kernel
theorem dX1_wayOf_4 : decode cX1_wayOf 4 = .ok (.iload_n 3, 1) := by decide +kernel
theorem dX1_wayOf_5 : decode cX1_wayOf 5 = .ok (.invokevirtual 79, 3) := by decide +kernel
theorem dX1_wayOf_8 : decode cX1_wayOf 8 = .ok (.istore 5, 2) := by decide +kernel
theorem dX1_wayOf_10 : decode cX1_wayOf 10 = .ok (.aload_n 0, 1) := by decide +kernel
theorem dX1_wayOf_11 : decode cX1_wayOf 11 = .ok (.getfield 17, 3) := by decide +kernel
theorem dX1_wayOf_14 : decode cX1_wayOf 14 = .ok (.iload_n 3, 1) := by decide +kernel
theorem dX1_wayOf_15 : decode cX1_wayOf 15 = .ok (.invokevirtual 103, 3) := by decide +kernel
theorem dX1_wayOf_18 : decode cX1_wayOf 18 = .ok (.istore 6, 2) := by decide +kernel
theorem dX1_wayOf_20 : decode cX1_wayOf 20 = .ok (.iload 5, 2) := by decide +kernel
theorem dX1_wayOf_22 : decode cX1_wayOf 22 = .ok (.iload 6, 2) := by decide +kernel
theorem dX1_wayOf_24 : decode cX1_wayOf 24 = .ok (.if_icmp .ne 6, 3) := by decide +kernel
theorem dX1_wayOf_27 : decode cX1_wayOf 27 = .ok (.iload 5, 2) := by decide +kernel
theorem dX1_wayOf_29 : decode cX1_wayOf 29 = .ok (.ireturn, 1) := by decide +kernel
theorem dX1_wayOf_30 : decode cX1_wayOf 30 = .ok (.aload_n 0, 1) := by decide +kernel
theorem dX1_wayOf_31 : decode cX1_wayOf 31 = .ok (.getfield 25, 3) := by decide +kernel
theorem dX1_wayOf_34 : decode cX1_wayOf 34 = .ok (.getfield 106, 3) := by decide +kernel
theorem dX1_wayOf_37 : decode cX1_wayOf 37 = .ok (.ifCond .eq 15, 3) := by decide +kernel
theorem dX1_wayOf_40 : decode cX1_wayOf 40 = .ok (.aload_n 0, 1) := by decide +kernel
theorem dX1_wayOf_41 : decode cX1_wayOf 41 = .ok (.dup, 1) := by decide +kernel
theorem dX1_wayOf_42 : decode cX1_wayOf 42 = .ok (.getfield 109, 3) := by decide +kernel
theorem dX1_wayOf_45 : decode cX1_wayOf 45 = .ok (.iconst 1, 1) := by decide +kernel
theorem dX1_wayOf_46 : decode cX1_wayOf 46 = .ok (.iload_n 3, 1) := by decide +kernel
theorem dX1_wayOf_47 : decode cX1_wayOf 47 = .ok (.ishl, 1) := by decide +kernel
theorem dX1_wayOf_48 : decode cX1_wayOf 48 = .ok (.ior, 1) := by decide +kernel
theorem dX1_wayOf_49 : decode cX1_wayOf 49 = .ok (.putfield 109, 3) := by decide +kernel
theorem dX1_wayOf_52 : decode cX1_wayOf 52 = .ok (.aload_n 0, 1) := by decide +kernel
theorem dX1_wayOf_53 : decode cX1_wayOf 53 = .ok (.getfield 11, 3) := by decide +kernel
theorem dX1_wayOf_56 : decode cX1_wayOf 56 = .ok (.iconst 0, 1) := by decide +kernel
theorem dX1_wayOf_57 : decode cX1_wayOf 57 = .ok (.aload_n 1, 1) := by decide +kernel
theorem dX1_wayOf_58 : decode cX1_wayOf 58 = .ok (.getfield 112, 3) := by decide +kernel
theorem dX1_wayOf_61 : decode cX1_wayOf 61 = .ok (.iload_n 3, 1) := by decide +kernel
theorem dX1_wayOf_62 : decode cX1_wayOf 62 = .ok (.ishr, 1) := by decide +kernel
theorem dX1_wayOf_63 : decode cX1_wayOf 63 = .ok (.iconst 1, 1) := by decide +kernel
theorem dX1_wayOf_64 : decode cX1_wayOf 64 = .ok (.iand, 1) := by decide +kernel
theorem dX1_wayOf_65 : decode cX1_wayOf 65 = .ok (.iastore, 1) := by decide +kernel
theorem dX1_wayOf_66 : decode cX1_wayOf 66 = .ok (.aload_n 0, 1) := by decide +kernel
theorem dX1_wayOf_67 : decode cX1_wayOf 67 = .ok (.getfield 11, 3) := by decide +kernel
theorem dX1_wayOf_70 : decode cX1_wayOf 70 = .ok (.iconst 1, 1) := by decide +kernel
theorem dX1_wayOf_71 : decode cX1_wayOf 71 = .ok (.aload_n 1, 1) := by decide +kernel
theorem dX1_wayOf_72 : decode cX1_wayOf 72 = .ok (.getfield 52, 3) := by decide +kernel
theorem dX1_wayOf_75 : decode cX1_wayOf 75 = .ok (.iastore, 1) := by decide +kernel
theorem dX1_wayOf_76 : decode cX1_wayOf 76 = .ok (.aload_n 0, 1) := by decide +kernel
theorem dX1_wayOf_77 : decode cX1_wayOf 77 = .ok (.getfield 11, 3) := by decide +kernel
theorem dX1_wayOf_80 : decode cX1_wayOf 80 = .ok (.iconst 2, 1) := by decide +kernel
theorem dX1_wayOf_81 : decode cX1_wayOf 81 = .ok (.iload 4, 2) := by decide +kernel
theorem dX1_wayOf_83 : decode cX1_wayOf 83 = .ok (.iastore, 1) := by decide +kernel
theorem dX1_wayOf_84 : decode cX1_wayOf 84 = .ok (.aload_n 0, 1) := by decide +kernel
theorem dX1_wayOf_85 : decode cX1_wayOf 85 = .ok (.getfield 11, 3) := by decide +kernel
theorem dX1_wayOf_88 : decode cX1_wayOf 88 = .ok (.iconst 3, 1) := by decide +kernel
theorem dX1_wayOf_89 : decode cX1_wayOf 89 = .ok (.iload_n 2, 1) := by decide +kernel
theorem dX1_wayOf_90 : decode cX1_wayOf 90 = .ok (.iastore, 1) := by decide +kernel
theorem dX1_wayOf_91 : decode cX1_wayOf 91 = .ok (.aload_n 0, 1) := by decide +kernel
theorem dX1_wayOf_92 : decode cX1_wayOf 92 = .ok (.getfield 11, 3) := by decide +kernel
theorem dX1_wayOf_95 : decode cX1_wayOf 95 = .ok (.iconst 4, 1) := by decide +kernel
theorem dX1_wayOf_96 : decode cX1_wayOf 96 = .ok (.aload_n 1, 1) := by decide +kernel
theorem dX1_wayOf_97 : decode cX1_wayOf 97 = .ok (.iload_n 2, 1) := by decide +kernel
theorem dX1_wayOf_98 : decode cX1_wayOf 98 = .ok (.invokevirtual 115, 3) := by decide +kernel
theorem dX1_wayOf_101 : decode cX1_wayOf 101 = .ok (.iastore, 1) := by decide +kernel
theorem dX1_wayOf_102 : decode cX1_wayOf 102 = .ok (.aload_n 0, 1) := by decide +kernel
theorem dX1_wayOf_103 : decode cX1_wayOf 103 = .ok (.getfield 11, 3) := by decide +kernel
theorem dX1_wayOf_106 : decode cX1_wayOf 106 = .ok (.iconst 5, 1) := by decide +kernel
theorem dX1_wayOf_107 : decode cX1_wayOf 107 = .ok (.aload_n 1, 1) := by decide +kernel
theorem dX1_wayOf_108 : decode cX1_wayOf 108 = .ok (.iload_n 2, 1) := by decide +kernel
theorem dX1_wayOf_109 : decode cX1_wayOf 109 = .ok (.invokevirtual 118, 3) := by decide +kernel
theorem dX1_wayOf_112 : decode cX1_wayOf 112 = .ok (.iastore, 1) := by decide +kernel
theorem dX1_wayOf_113 : decode cX1_wayOf 113 = .ok (.aload_n 0, 1) := by decide +kernel
theorem dX1_wayOf_114 : decode cX1_wayOf 114 = .ok (.getfield 11, 3) := by decide +kernel
theorem dX1_wayOf_117 : decode cX1_wayOf 117 = .ok (.bipush 6, 2) := by decide +kernel
theorem dX1_wayOf_119 : decode cX1_wayOf 119 = .ok (.aload_n 0, 1) := by decide +kernel
theorem dX1_wayOf_120 : decode cX1_wayOf 120 = .ok (.getfield 25, 3) := by decide +kernel
theorem dX1_wayOf_123 : decode cX1_wayOf 123 = .ok (.getfield 29, 3) := by decide +kernel
theorem dX1_wayOf_126 : decode cX1_wayOf 126 = .ok (.ifCond .eq 16, 3) := by decide +kernel
theorem dX1_wayOf_129 : decode cX1_wayOf 129 = .ok (.aload_n 1, 1) := by decide +kernel
theorem dX1_wayOf_130 : decode cX1_wayOf 130 = .ok (.iload_n 3, 1) := by decide +kernel
theorem dX1_wayOf_131 : decode cX1_wayOf 131 = .ok (.invokevirtual 121, 3) := by decide +kernel
theorem dX1_wayOf_134 : decode cX1_wayOf 134 = .ok (.invokestatic 124, 3) := by decide +kernel
theorem dX1_wayOf_137 : decode cX1_wayOf 137 = .ok (.iconst 1, 1) := by decide +kernel
theorem dX1_wayOf_138 : decode cX1_wayOf 138 = .ok (.isub, 1) := by decide +kernel
theorem dX1_wayOf_139 : decode cX1_wayOf 139 = .ok (.goto 4, 3) := by decide +kernel
theorem dX1_wayOf_142 : decode cX1_wayOf 142 = .ok (.iconst 0, 1) := by decide +kernel
theorem dX1_wayOf_143 : decode cX1_wayOf 143 = .ok (.iastore, 1) := by decide +kernel
theorem dX1_wayOf_144 : decode cX1_wayOf 144 = .ok (.aload_n 0, 1) := by decide +kernel
theorem dX1_wayOf_145 : decode cX1_wayOf 145 = .ok (.getfield 11, 3) := by decide +kernel
theorem dX1_wayOf_148 : decode cX1_wayOf 148 = .ok (.bipush 7, 2) := by decide +kernel
theorem dX1_wayOf_150 : decode cX1_wayOf 150 = .ok (.iload_n 3, 1) := by decide +kernel
theorem dX1_wayOf_151 : decode cX1_wayOf 151 = .ok (.iastore, 1) := by decide +kernel
theorem dX1_wayOf_152 : decode cX1_wayOf 152 = .ok (.aload_n 0, 1) := by decide +kernel
theorem dX1_wayOf_153 : decode cX1_wayOf 153 = .ok (.getfield 25, 3) := by decide +kernel
theorem dX1_wayOf_156 : decode cX1_wayOf 156 = .ok (.aload_n 0, 1) := by decide +kernel
theorem dX1_wayOf_157 : decode cX1_wayOf 157 = .ok (.getfield 11, 3) := by decide +kernel
theorem dX1_wayOf_160 : decode cX1_wayOf 160 = .ok (.invokevirtual 129, 3) := by decide +kernel
theorem dX1_wayOf_163 : decode cX1_wayOf 163 = .ok (.ifCond .eq 8, 3) := by decide +kernel
theorem dX1_wayOf_166 : decode cX1_wayOf 166 = .ok (.iload 6, 2) := by decide +kernel
theorem dX1_wayOf_168 : decode cX1_wayOf 168 = .ok (.goto 5, 3) := by decide +kernel
theorem dX1_wayOf_171 : decode cX1_wayOf 171 = .ok (.iload 5, 2) := by decide +kernel
theorem dX1_wayOf_173 : decode cX1_wayOf 173 = .ok (.ireturn, 1) := by decide +kernel
theorem dX3_clear_0 : decode cX3_clear 0 = .ok (.aload_n 0, 1) := by decide +kernel
theorem dX3_clear_1 : decode cX3_clear 1 = .ok (.iconst 0, 1) := by decide +kernel
theorem dX3_clear_2 : decode cX3_clear 2 = .ok (.putfield 16, 3) := by decide +kernel
theorem dX3_clear_5 : decode cX3_clear 5 = .ok (.return_, 1) := by decide +kernel
theorem dX5_value_0 : decode cX5_value 0 = .ok (.iconst 0, 1) := by decide +kernel
theorem dX5_value_1 : decode cX5_value 1 = .ok (.istore_n 2, 1) := by decide +kernel
theorem dX5_value_2 : decode cX5_value 2 = .ok (.iconst 0, 1) := by decide +kernel
theorem dX5_value_3 : decode cX5_value 3 = .ok (.istore_n 3, 1) := by decide +kernel
theorem dX5_value_4 : decode cX5_value 4 = .ok (.iload_n 3, 1) := by decide +kernel
theorem dX5_value_5 : decode cX5_value 5 = .ok (.aload_n 0, 1) := by decide +kernel
theorem dX5_value_6 : decode cX5_value 6 = .ok (.getfield 19, 3) := by decide +kernel
theorem dX5_value_9 : decode cX5_value 9 = .ok (.if_icmp .ge 330, 3) := by decide +kernel
theorem dX5_value_12 : decode cX5_value 12 = .ok (.iload_n 3, 1) := by decide +kernel
theorem dX5_value_13 : decode cX5_value 13 = .ok (.bipush 40, 2) := by decide +kernel
theorem dX5_value_15 : decode cX5_value 15 = .ok (.if_icmp .ge 324, 3) := by decide +kernel
theorem dX5_value_18 : decode cX5_value 18 = .ok (.iload_n 2, 1) := by decide +kernel
theorem dX5_value_19 : decode cX5_value 19 = .ok (.bipush 40, 2) := by decide +kernel
theorem dX5_value_21 : decode cX5_value 21 = .ok (.if_icmp .ge 318, 3) := by decide +kernel
theorem dX5_value_24 : decode cX5_value 24 = .ok (.aload_n 0, 1) := by decide +kernel
theorem dX5_value_25 : decode cX5_value 25 = .ok (.getfield 9, 3) := by decide +kernel
theorem dX5_value_28 : decode cX5_value 28 = .ok (.iload_n 3, 1) := by decide +kernel
theorem dX5_value_29 : decode cX5_value 29 = .ok (.iaload, 1) := by decide +kernel
theorem dX5_value_30 : decode cX5_value 30 = .ok (.istore 4, 2) := by decide +kernel
theorem dX5_value_32 : decode cX5_value 32 = .ok (.iload 4, 2) := by decide +kernel
theorem dX5_value_34 : decode cX5_value 34 = .ok (.bipush 32, 2) := by decide +kernel
theorem dX5_value_36 : decode cX5_value 36 = .ok (.if_icmp .lt 20, 3) := by decide +kernel
theorem dX5_value_39 : decode cX5_value 39 = .ok (.aload_n 0, 1) := by decide +kernel
theorem dX5_value_40 : decode cX5_value 40 = .ok (.getfield 13, 3) := by decide +kernel
theorem dX5_value_43 : decode cX5_value 43 = .ok (.iload_n 2, 1) := by decide +kernel
theorem dX5_value_44 : decode cX5_value 44 = .ok (.iinc 2 1, 3) := by decide +kernel
theorem dX5_value_47 : decode cX5_value 47 = .ok (.iload 4, 2) := by decide +kernel
theorem dX5_value_49 : decode cX5_value 49 = .ok (.bipush 32, 2) := by decide +kernel
theorem dX5_value_51 : decode cX5_value 51 = .ok (.isub, 1) := by decide +kernel
theorem dX5_value_52 : decode cX5_value 52 = .ok (.iastore, 1) := by decide +kernel
theorem dX5_value_53 : decode cX5_value 53 = .ok (.goto 280, 3) := by decide +kernel
theorem dX5_value_56 : decode cX5_value 56 = .ok (.iload 4, 2) := by decide +kernel
theorem dX5_value_58 : decode cX5_value 58 = .ok (.ifCond .lt 26, 3) := by decide +kernel
theorem dX5_value_61 : decode cX5_value 61 = .ok (.iload 4, 2) := by decide +kernel
theorem dX5_value_63 : decode cX5_value 63 = .ok (.aload_n 1, 1) := by decide +kernel
theorem dX5_value_64 : decode cX5_value 64 = .ok (.arraylength, 1) := by decide +kernel
theorem dX5_value_65 : decode cX5_value 65 = .ok (.if_icmp .ge 19, 3) := by decide +kernel
theorem dX5_value_68 : decode cX5_value 68 = .ok (.aload_n 0, 1) := by decide +kernel
theorem dX5_value_69 : decode cX5_value 69 = .ok (.getfield 13, 3) := by decide +kernel
theorem dX5_value_72 : decode cX5_value 72 = .ok (.iload_n 2, 1) := by decide +kernel
theorem dX5_value_73 : decode cX5_value 73 = .ok (.iinc 2 1, 3) := by decide +kernel
theorem dX5_value_76 : decode cX5_value 76 = .ok (.aload_n 1, 1) := by decide +kernel
theorem dX5_value_77 : decode cX5_value 77 = .ok (.iload 4, 2) := by decide +kernel
theorem dX5_value_79 : decode cX5_value 79 = .ok (.iaload, 1) := by decide +kernel
theorem dX5_value_80 : decode cX5_value 80 = .ok (.iastore, 1) := by decide +kernel
theorem dX5_value_81 : decode cX5_value 81 = .ok (.goto 252, 3) := by decide +kernel
theorem dX5_value_84 : decode cX5_value 84 = .ok (.iload_n 2, 1) := by decide +kernel
theorem dX5_value_85 : decode cX5_value 85 = .ok (.iload 4, 2) := by decide +kernel
theorem dX5_value_87 : decode cX5_value 87 = .ok (.bipush 8, 2) := by decide +kernel
theorem dX5_value_89 : decode cX5_value 89 = .ok (.if_icmp .ne 7, 3) := by decide +kernel
theorem dX5_value_92 : decode cX5_value 92 = .ok (.iconst 1, 1) := by decide +kernel
theorem dX5_value_93 : decode cX5_value 93 = .ok (.goto 4, 3) := by decide +kernel
theorem dX5_value_96 : decode cX5_value 96 = .ok (.iconst 2, 1) := by decide +kernel
theorem dX5_value_97 : decode cX5_value 97 = .ok (.if_icmp .ge 5, 3) := by decide +kernel
theorem dX5_value_100 : decode cX5_value 100 = .ok (.iconst 0, 1) := by decide +kernel
theorem dX5_value_101 : decode cX5_value 101 = .ok (.ireturn, 1) := by decide +kernel
theorem dX5_value_102 : decode cX5_value 102 = .ok (.iload_n 2, 1) := by decide +kernel
theorem dX5_value_103 : decode cX5_value 103 = .ok (.iload 4, 2) := by decide +kernel
theorem dX5_value_105 : decode cX5_value 105 = .ok (.bipush 8, 2) := by decide +kernel
theorem dX5_value_107 : decode cX5_value 107 = .ok (.if_icmp .ne 7, 3) := by decide +kernel
theorem dX5_value_110 : decode cX5_value 110 = .ok (.iconst 0, 1) := by decide +kernel
theorem dX5_value_111 : decode cX5_value 111 = .ok (.goto 4, 3) := by decide +kernel
theorem dX5_value_114 : decode cX5_value 114 = .ok (.iconst 1, 1) := by decide +kernel
theorem dX5_value_115 : decode cX5_value 115 = .ok (.isub, 1) := by decide +kernel
theorem dX5_value_116 : decode cX5_value 116 = .ok (.istore_n 2, 1) := by decide +kernel
theorem dX5_value_117 : decode cX5_value 117 = .ok (.aload_n 0, 1) := by decide +kernel
theorem dX5_value_118 : decode cX5_value 118 = .ok (.getfield 13, 3) := by decide +kernel
theorem dX5_value_121 : decode cX5_value 121 = .ok (.iload_n 2, 1) := by decide +kernel
theorem dX5_value_122 : decode cX5_value 122 = .ok (.iconst 1, 1) := by decide +kernel
theorem dX5_value_123 : decode cX5_value 123 = .ok (.isub, 1) := by decide +kernel
theorem dX5_value_124 : decode cX5_value 124 = .ok (.iaload, 1) := by decide +kernel
theorem dX5_value_125 : decode cX5_value 125 = .ok (.istore 5, 2) := by decide +kernel
theorem dX5_value_127 : decode cX5_value 127 = .ok (.aload_n 0, 1) := by decide +kernel
theorem dX5_value_128 : decode cX5_value 128 = .ok (.getfield 13, 3) := by decide +kernel
theorem dX5_value_131 : decode cX5_value 131 = .ok (.iload_n 2, 1) := by decide +kernel
theorem dX5_value_132 : decode cX5_value 132 = .ok (.iaload, 1) := by decide +kernel
theorem dX5_value_133 : decode cX5_value 133 = .ok (.istore 6, 2) := by decide +kernel
theorem dX5_value_135 : decode cX5_value 135 = .ok (.iload 4, 2) := by decide +kernel
theorem dX5_value_137 : decode cX5_value 137 = .ok (.tableswitch 176 8 14 #[43, 57, 73, 89, 105, 130, 153], 43) := by decide +kernel
theorem dX5_value_180 : decode cX5_value 180 = .ok (.aload_n 0, 1) := by decide +kernel
theorem dX5_value_181 : decode cX5_value 181 = .ok (.getfield 13, 3) := by decide +kernel
theorem dX5_value_184 : decode cX5_value 184 = .ok (.iload_n 2, 1) := by decide +kernel
theorem dX5_value_185 : decode cX5_value 185 = .ok (.iconst 1, 1) := by decide +kernel
theorem dX5_value_186 : decode cX5_value 186 = .ok (.isub, 1) := by decide +kernel
theorem dX5_value_187 : decode cX5_value 187 = .ok (.iload 5, 2) := by decide +kernel
theorem dX5_value_189 : decode cX5_value 189 = .ok (.ineg, 1) := by decide +kernel
theorem dX5_value_190 : decode cX5_value 190 = .ok (.iastore, 1) := by decide +kernel
theorem dX5_value_191 : decode cX5_value 191 = .ok (.goto 142, 3) := by decide +kernel
theorem dX5_value_194 : decode cX5_value 194 = .ok (.aload_n 0, 1) := by decide +kernel
theorem dX5_value_195 : decode cX5_value 195 = .ok (.getfield 13, 3) := by decide +kernel
theorem dX5_value_198 : decode cX5_value 198 = .ok (.iload_n 2, 1) := by decide +kernel
theorem dX5_value_199 : decode cX5_value 199 = .ok (.iconst 1, 1) := by decide +kernel
theorem dX5_value_200 : decode cX5_value 200 = .ok (.isub, 1) := by decide +kernel
theorem dX5_value_201 : decode cX5_value 201 = .ok (.iload 5, 2) := by decide +kernel
theorem dX5_value_203 : decode cX5_value 203 = .ok (.iload 6, 2) := by decide +kernel
theorem dX5_value_205 : decode cX5_value 205 = .ok (.iadd, 1) := by decide +kernel
theorem dX5_value_206 : decode cX5_value 206 = .ok (.iastore, 1) := by decide +kernel
theorem dX5_value_207 : decode cX5_value 207 = .ok (.goto 126, 3) := by decide +kernel
theorem dX5_value_210 : decode cX5_value 210 = .ok (.aload_n 0, 1) := by decide +kernel
theorem dX5_value_211 : decode cX5_value 211 = .ok (.getfield 13, 3) := by decide +kernel
theorem dX5_value_214 : decode cX5_value 214 = .ok (.iload_n 2, 1) := by decide +kernel
theorem dX5_value_215 : decode cX5_value 215 = .ok (.iconst 1, 1) := by decide +kernel
theorem dX5_value_216 : decode cX5_value 216 = .ok (.isub, 1) := by decide +kernel
theorem dX5_value_217 : decode cX5_value 217 = .ok (.iload 5, 2) := by decide +kernel
theorem dX5_value_219 : decode cX5_value 219 = .ok (.iload 6, 2) := by decide +kernel
theorem dX5_value_221 : decode cX5_value 221 = .ok (.isub, 1) := by decide +kernel
theorem dX5_value_222 : decode cX5_value 222 = .ok (.iastore, 1) := by decide +kernel
theorem dX5_value_223 : decode cX5_value 223 = .ok (.goto 110, 3) := by decide +kernel
theorem dX5_value_226 : decode cX5_value 226 = .ok (.aload_n 0, 1) := by decide +kernel
theorem dX5_value_227 : decode cX5_value 227 = .ok (.getfield 13, 3) := by decide +kernel
theorem dX5_value_230 : decode cX5_value 230 = .ok (.iload_n 2, 1) := by decide +kernel
theorem dX5_value_231 : decode cX5_value 231 = .ok (.iconst 1, 1) := by decide +kernel
theorem dX5_value_232 : decode cX5_value 232 = .ok (.isub, 1) := by decide +kernel
theorem dX5_value_233 : decode cX5_value 233 = .ok (.iload 5, 2) := by decide +kernel
theorem dX5_value_235 : decode cX5_value 235 = .ok (.iload 6, 2) := by decide +kernel
theorem dX5_value_237 : decode cX5_value 237 = .ok (.imul, 1) := by decide +kernel
theorem dX5_value_238 : decode cX5_value 238 = .ok (.iastore, 1) := by decide +kernel
theorem dX5_value_239 : decode cX5_value 239 = .ok (.goto 94, 3) := by decide +kernel
theorem dX5_value_242 : decode cX5_value 242 = .ok (.aload_n 0, 1) := by decide +kernel
theorem dX5_value_243 : decode cX5_value 243 = .ok (.getfield 13, 3) := by decide +kernel
theorem dX5_value_246 : decode cX5_value 246 = .ok (.iload_n 2, 1) := by decide +kernel
theorem dX5_value_247 : decode cX5_value 247 = .ok (.iconst 1, 1) := by decide +kernel
theorem dX5_value_248 : decode cX5_value 248 = .ok (.isub, 1) := by decide +kernel
theorem dX5_value_249 : decode cX5_value 249 = .ok (.iload 6, 2) := by decide +kernel
theorem dX5_value_251 : decode cX5_value 251 = .ok (.ifCond .ne 7, 3) := by decide +kernel
theorem dX5_value_254 : decode cX5_value 254 = .ok (.iconst 0, 1) := by decide +kernel
theorem dX5_value_255 : decode cX5_value 255 = .ok (.goto 8, 3) := by decide +kernel
theorem dX5_value_258 : decode cX5_value 258 = .ok (.iload 5, 2) := by decide +kernel
theorem dX5_value_260 : decode cX5_value 260 = .ok (.iload 6, 2) := by decide +kernel
theorem dX5_value_262 : decode cX5_value 262 = .ok (.idiv, 1) := by decide +kernel
theorem dX5_value_263 : decode cX5_value 263 = .ok (.iastore, 1) := by decide +kernel
theorem dX5_value_264 : decode cX5_value 264 = .ok (.goto 69, 3) := by decide +kernel
theorem dX5_value_267 : decode cX5_value 267 = .ok (.aload_n 0, 1) := by decide +kernel
theorem dX5_value_268 : decode cX5_value 268 = .ok (.getfield 13, 3) := by decide +kernel
theorem dX5_value_271 : decode cX5_value 271 = .ok (.iload_n 2, 1) := by decide +kernel
theorem dX5_value_272 : decode cX5_value 272 = .ok (.iconst 1, 1) := by decide +kernel
theorem dX5_value_273 : decode cX5_value 273 = .ok (.isub, 1) := by decide +kernel
theorem dX5_value_274 : decode cX5_value 274 = .ok (.iload 5, 2) := by decide +kernel
theorem dX5_value_276 : decode cX5_value 276 = .ok (.iload 6, 2) := by decide +kernel
theorem dX5_value_278 : decode cX5_value 278 = .ok (.if_icmp .ge 7, 3) := by decide +kernel
theorem dX5_value_281 : decode cX5_value 281 = .ok (.iconst 1, 1) := by decide +kernel
theorem dX5_value_282 : decode cX5_value 282 = .ok (.goto 4, 3) := by decide +kernel
theorem dX5_value_285 : decode cX5_value 285 = .ok (.iconst 0, 1) := by decide +kernel
theorem dX5_value_286 : decode cX5_value 286 = .ok (.iastore, 1) := by decide +kernel
theorem dX5_value_287 : decode cX5_value 287 = .ok (.goto 46, 3) := by decide +kernel
theorem dX5_value_290 : decode cX5_value 290 = .ok (.aload_n 0, 1) := by decide +kernel
theorem dX5_value_291 : decode cX5_value 291 = .ok (.getfield 13, 3) := by decide +kernel
theorem dX5_value_294 : decode cX5_value 294 = .ok (.iload_n 2, 1) := by decide +kernel
theorem dX5_value_295 : decode cX5_value 295 = .ok (.iconst 1, 1) := by decide +kernel
theorem dX5_value_296 : decode cX5_value 296 = .ok (.isub, 1) := by decide +kernel
theorem dX5_value_297 : decode cX5_value 297 = .ok (.iload 5, 2) := by decide +kernel
theorem dX5_value_299 : decode cX5_value 299 = .ok (.iload 6, 2) := by decide +kernel
theorem dX5_value_301 : decode cX5_value 301 = .ok (.if_icmp .le 7, 3) := by decide +kernel
theorem dX5_value_304 : decode cX5_value 304 = .ok (.iconst 1, 1) := by decide +kernel
theorem dX5_value_305 : decode cX5_value 305 = .ok (.goto 4, 3) := by decide +kernel
theorem dX5_value_308 : decode cX5_value 308 = .ok (.iconst 0, 1) := by decide +kernel
theorem dX5_value_309 : decode cX5_value 309 = .ok (.iastore, 1) := by decide +kernel
theorem dX5_value_310 : decode cX5_value 310 = .ok (.goto 23, 3) := by decide +kernel
theorem dX5_value_313 : decode cX5_value 313 = .ok (.aload_n 0, 1) := by decide +kernel
theorem dX5_value_314 : decode cX5_value 314 = .ok (.getfield 13, 3) := by decide +kernel
theorem dX5_value_317 : decode cX5_value 317 = .ok (.iload_n 2, 1) := by decide +kernel
theorem dX5_value_318 : decode cX5_value 318 = .ok (.iconst 1, 1) := by decide +kernel
theorem dX5_value_319 : decode cX5_value 319 = .ok (.isub, 1) := by decide +kernel
theorem dX5_value_320 : decode cX5_value 320 = .ok (.iload 5, 2) := by decide +kernel
theorem dX5_value_322 : decode cX5_value 322 = .ok (.iload 6, 2) := by decide +kernel
theorem dX5_value_324 : decode cX5_value 324 = .ok (.if_icmp .ne 7, 3) := by decide +kernel
theorem dX5_value_327 : decode cX5_value 327 = .ok (.iconst 1, 1) := by decide +kernel
theorem dX5_value_328 : decode cX5_value 328 = .ok (.goto 4, 3) := by decide +kernel
theorem dX5_value_331 : decode cX5_value 331 = .ok (.iconst 0, 1) := by decide +kernel
theorem dX5_value_332 : decode cX5_value 332 = .ok (.iastore, 1) := by decide +kernel
theorem dX5_value_333 : decode cX5_value 333 = .ok (.iinc 3 1, 3) := by decide +kernel
theorem dX5_value_336 : decode cX5_value 336 = .ok (.goto (-332), 3) := by decide +kernel
theorem dX5_value_339 : decode cX5_value 339 = .ok (.aload_n 0, 1) := by decide +kernel
theorem dX5_value_340 : decode cX5_value 340 = .ok (.getfield 13, 3) := by decide +kernel
theorem dX5_value_343 : decode cX5_value 343 = .ok (.iconst 0, 1) := by decide +kernel
theorem dX5_value_344 : decode cX5_value 344 = .ok (.iaload, 1) := by decide +kernel
theorem dX5_value_345 : decode cX5_value 345 = .ok (.ireturn, 1) := by decide +kernel
theorem dX6_add_0 : decode cX6_add 0 = .ok (.aload_n 0, 1) := by decide +kernel
theorem dX6_add_1 : decode cX6_add 1 = .ok (.getfield 30, 3) := by decide +kernel
theorem dX6_add_4 : decode cX6_add 4 = .ok (.istore 6, 2) := by decide +kernel
theorem dX6_add_6 : decode cX6_add 6 = .ok (.iload 6, 2) := by decide +kernel
theorem dX6_add_8 : decode cX6_add 8 = .ok (.ifCond .lt 10, 3) := by decide +kernel
theorem dX6_add_11 : decode cX6_add 11 = .ok (.iload 6, 2) := by decide +kernel
theorem dX6_add_13 : decode cX6_add 13 = .ok (.bipush 6, 2) := by decide +kernel
theorem dX6_add_15 : decode cX6_add 15 = .ok (.if_icmp .lt 6, 3) := by decide +kernel
theorem dX6_add_18 : decode cX6_add 18 = .ok (.bipush (-2), 2) := by decide +kernel
theorem dX6_add_20 : decode cX6_add 20 = .ok (.ireturn, 1) := by decide +kernel
theorem dX6_add_21 : decode cX6_add 21 = .ok (.aload_n 0, 1) := by decide +kernel
theorem dX6_add_22 : decode cX6_add 22 = .ok (.getfield 9, 3) := by decide +kernel
theorem dX6_add_25 : decode cX6_add 25 = .ok (.iload 6, 2) := by decide +kernel
theorem dX6_add_27 : decode cX6_add 27 = .ok (.iload_n 1, 1) := by decide +kernel
theorem dX6_add_28 : decode cX6_add 28 = .ok (.iastore, 1) := by decide +kernel
theorem dX6_add_29 : decode cX6_add 29 = .ok (.aload_n 0, 1) := by decide +kernel
theorem dX6_add_30 : decode cX6_add 30 = .ok (.getfield 15, 3) := by decide +kernel
theorem dX6_add_33 : decode cX6_add 33 = .ok (.iload 6, 2) := by decide +kernel
theorem dX6_add_35 : decode cX6_add 35 = .ok (.iload_n 2, 1) := by decide +kernel
theorem dX6_add_36 : decode cX6_add 36 = .ok (.iastore, 1) := by decide +kernel
theorem dX6_add_37 : decode cX6_add 37 = .ok (.aload_n 0, 1) := by decide +kernel
theorem dX6_add_38 : decode cX6_add 38 = .ok (.getfield 18, 3) := by decide +kernel
theorem dX6_add_41 : decode cX6_add 41 = .ok (.iload 6, 2) := by decide +kernel
theorem dX6_add_43 : decode cX6_add 43 = .ok (.iload_n 3, 1) := by decide +kernel
theorem dX6_add_44 : decode cX6_add 44 = .ok (.iastore, 1) := by decide +kernel
theorem dX6_add_45 : decode cX6_add 45 = .ok (.aload_n 0, 1) := by decide +kernel
theorem dX6_add_46 : decode cX6_add 46 = .ok (.getfield 21, 3) := by decide +kernel
theorem dX6_add_49 : decode cX6_add 49 = .ok (.iload 6, 2) := by decide +kernel
theorem dX6_add_51 : decode cX6_add 51 = .ok (.iconst 1, 1) := by decide +kernel
theorem dX6_add_52 : decode cX6_add 52 = .ok (.iload_n 1, 1) := by decide +kernel
theorem dX6_add_53 : decode cX6_add 53 = .ok (.ishl, 1) := by decide +kernel
theorem dX6_add_54 : decode cX6_add 54 = .ok (.iastore, 1) := by decide +kernel
theorem dX6_add_55 : decode cX6_add 55 = .ok (.aload_n 0, 1) := by decide +kernel
theorem dX6_add_56 : decode cX6_add 56 = .ok (.getfield 24, 3) := by decide +kernel
theorem dX6_add_59 : decode cX6_add 59 = .ok (.iload 6, 2) := by decide +kernel
theorem dX6_add_61 : decode cX6_add 61 = .ok (.aload_n 0, 1) := by decide +kernel
theorem dX6_add_62 : decode cX6_add 62 = .ok (.getfield 37, 3) := by decide +kernel
theorem dX6_add_65 : decode cX6_add 65 = .ok (.iload 4, 2) := by decide +kernel
theorem dX6_add_67 : decode cX6_add 67 = .ok (.iadd, 1) := by decide +kernel
theorem dX6_add_68 : decode cX6_add 68 = .ok (.iastore, 1) := by decide +kernel
theorem dX6_add_69 : decode cX6_add 69 = .ok (.aload_n 0, 1) := by decide +kernel
theorem dX6_add_70 : decode cX6_add 70 = .ok (.getfield 27, 3) := by decide +kernel
theorem dX6_add_73 : decode cX6_add 73 = .ok (.iload 6, 2) := by decide +kernel
theorem dX6_add_75 : decode cX6_add 75 = .ok (.iconst (-1), 1) := by decide +kernel
theorem dX6_add_76 : decode cX6_add 76 = .ok (.iastore, 1) := by decide +kernel
theorem dX6_add_77 : decode cX6_add 77 = .ok (.aload_n 0, 1) := by decide +kernel
theorem dX6_add_78 : decode cX6_add 78 = .ok (.dup, 1) := by decide +kernel
theorem dX6_add_79 : decode cX6_add 79 = .ok (.getfield 30, 3) := by decide +kernel
theorem dX6_add_82 : decode cX6_add 82 = .ok (.iconst 1, 1) := by decide +kernel
theorem dX6_add_83 : decode cX6_add 83 = .ok (.iadd, 1) := by decide +kernel
theorem dX6_add_84 : decode cX6_add 84 = .ok (.putfield 30, 3) := by decide +kernel
theorem dX6_add_87 : decode cX6_add 87 = .ok (.iload 5, 2) := by decide +kernel
theorem dX6_add_89 : decode cX6_add 89 = .ok (.ifCond .eq 9, 3) := by decide +kernel
theorem dX6_add_92 : decode cX6_add 92 = .ok (.aload_n 0, 1) := by decide +kernel
theorem dX6_add_93 : decode cX6_add 93 = .ok (.iload 6, 2) := by decide +kernel
theorem dX6_add_95 : decode cX6_add 95 = .ok (.invokevirtual 52, 3) := by decide +kernel
theorem dX6_add_98 : decode cX6_add 98 = .ok (.iload 6, 2) := by decide +kernel
theorem dX6_add_100 : decode cX6_add 100 = .ok (.ireturn, 1) := by decide +kernel
theorem dX6_at_0 : decode cX6_at 0 = .ok (.iconst 0, 1) := by decide +kernel
theorem dX6_at_1 : decode cX6_at 1 = .ok (.istore_n 2, 1) := by decide +kernel
theorem dX6_at_2 : decode cX6_at 2 = .ok (.iconst 0, 1) := by decide +kernel
theorem dX6_at_3 : decode cX6_at 3 = .ok (.istore_n 3, 1) := by decide +kernel
theorem dX6_at_4 : decode cX6_at 4 = .ok (.iload_n 3, 1) := by decide +kernel
theorem dX6_at_5 : decode cX6_at 5 = .ok (.aload_n 0, 1) := by decide +kernel
theorem dX6_at_6 : decode cX6_at 6 = .ok (.getfield 30, 3) := by decide +kernel
theorem dX6_at_9 : decode cX6_at 9 = .ok (.if_icmp .ge 35, 3) := by decide +kernel
theorem dX6_at_12 : decode cX6_at 12 = .ok (.iload_n 3, 1) := by decide +kernel
theorem dX6_at_13 : decode cX6_at 13 = .ok (.bipush 6, 2) := by decide +kernel
theorem dX6_at_15 : decode cX6_at 15 = .ok (.if_icmp .ge 29, 3) := by decide +kernel
theorem dX6_at_18 : decode cX6_at 18 = .ok (.iload_n 2, 1) := by decide +kernel
theorem dX6_at_19 : decode cX6_at 19 = .ok (.aload_n 0, 1) := by decide +kernel
theorem dX6_at_20 : decode cX6_at 20 = .ok (.getfield 9, 3) := by decide +kernel
theorem dX6_at_23 : decode cX6_at 23 = .ok (.iload_n 3, 1) := by decide +kernel
theorem dX6_at_24 : decode cX6_at 24 = .ok (.iaload, 1) := by decide +kernel
theorem dX6_at_25 : decode cX6_at 25 = .ok (.iload_n 1, 1) := by decide +kernel
theorem dX6_at_26 : decode cX6_at 26 = .ok (.if_icmp .ne 9, 3) := by decide +kernel
theorem dX6_at_29 : decode cX6_at 29 = .ok (.iconst 1, 1) := by decide +kernel
theorem dX6_at_30 : decode cX6_at 30 = .ok (.iload_n 3, 1) := by decide +kernel
theorem dX6_at_31 : decode cX6_at 31 = .ok (.ishl, 1) := by decide +kernel
theorem dX6_at_32 : decode cX6_at 32 = .ok (.goto 4, 3) := by decide +kernel
theorem dX6_at_35 : decode cX6_at 35 = .ok (.iconst 0, 1) := by decide +kernel
theorem dX6_at_36 : decode cX6_at 36 = .ok (.ior, 1) := by decide +kernel
theorem dX6_at_37 : decode cX6_at 37 = .ok (.istore_n 2, 1) := by decide +kernel
theorem dX6_at_38 : decode cX6_at 38 = .ok (.iinc 3 1, 3) := by decide +kernel
theorem dX6_at_41 : decode cX6_at 41 = .ok (.goto (-37), 3) := by decide +kernel
theorem dX6_at_44 : decode cX6_at 44 = .ok (.iload_n 2, 1) := by decide +kernel
theorem dX6_at_45 : decode cX6_at 45 = .ok (.ireturn, 1) := by decide +kernel
theorem dX6_clear_0 : decode cX6_clear 0 = .ok (.aload_n 0, 1) := by decide +kernel
theorem dX6_clear_1 : decode cX6_clear 1 = .ok (.iconst 0, 1) := by decide +kernel
theorem dX6_clear_2 : decode cX6_clear 2 = .ok (.putfield 30, 3) := by decide +kernel
theorem dX6_clear_5 : decode cX6_clear 5 = .ok (.aload_n 0, 1) := by decide +kernel
theorem dX6_clear_6 : decode cX6_clear 6 = .ok (.iconst 0, 1) := by decide +kernel
theorem dX6_clear_7 : decode cX6_clear 7 = .ok (.putfield 34, 3) := by decide +kernel
theorem dX6_clear_10 : decode cX6_clear 10 = .ok (.aload_n 0, 1) := by decide +kernel
theorem dX6_clear_11 : decode cX6_clear 11 = .ok (.iconst 0, 1) := by decide +kernel
theorem dX6_clear_12 : decode cX6_clear 12 = .ok (.putfield 37, 3) := by decide +kernel
theorem dX6_clear_15 : decode cX6_clear 15 = .ok (.aload_n 0, 1) := by decide +kernel
theorem dX6_clear_16 : decode cX6_clear 16 = .ok (.iconst 0, 1) := by decide +kernel
theorem dX6_clear_17 : decode cX6_clear 17 = .ok (.putfield 40, 3) := by decide +kernel
theorem dX6_clear_20 : decode cX6_clear 20 = .ok (.aload_n 0, 1) := by decide +kernel
theorem dX6_clear_21 : decode cX6_clear 21 = .ok (.iconst 0, 1) := by decide +kernel
theorem dX6_clear_22 : decode cX6_clear 22 = .ok (.putfield 43, 3) := by decide +kernel
theorem dX6_clear_25 : decode cX6_clear 25 = .ok (.return_, 1) := by decide +kernel
theorem dX6_comeHome_0 : decode cX6_comeHome 0 = .ok (.iload_n 1, 1) := by decide +kernel
theorem dX6_comeHome_1 : decode cX6_comeHome 1 = .ok (.ifCond .lt 31, 3) := by decide +kernel
theorem dX6_comeHome_4 : decode cX6_comeHome 4 = .ok (.iload_n 1, 1) := by decide +kernel
theorem dX6_comeHome_5 : decode cX6_comeHome 5 = .ok (.bipush 6, 2) := by decide +kernel
theorem dX6_comeHome_7 : decode cX6_comeHome 7 = .ok (.if_icmp .ge 25, 3) := by decide +kernel
theorem dX6_comeHome_10 : decode cX6_comeHome 10 = .ok (.aload_n 0, 1) := by decide +kernel
theorem dX6_comeHome_11 : decode cX6_comeHome 11 = .ok (.dup, 1) := by decide +kernel
theorem dX6_comeHome_12 : decode cX6_comeHome 12 = .ok (.getfield 40, 3) := by decide +kernel
theorem dX6_comeHome_15 : decode cX6_comeHome 15 = .ok (.iconst 1, 1) := by decide +kernel
theorem dX6_comeHome_16 : decode cX6_comeHome 16 = .ok (.iload_n 1, 1) := by decide +kernel
theorem dX6_comeHome_17 : decode cX6_comeHome 17 = .ok (.ishl, 1) := by decide +kernel
theorem dX6_comeHome_18 : decode cX6_comeHome 18 = .ok (.ior, 1) := by decide +kernel
theorem dX6_comeHome_19 : decode cX6_comeHome 19 = .ok (.putfield 40, 3) := by decide +kernel
theorem dX6_comeHome_22 : decode cX6_comeHome 22 = .ok (.aload_n 0, 1) := by decide +kernel
theorem dX6_comeHome_23 : decode cX6_comeHome 23 = .ok (.getfield 27, 3) := by decide +kernel
theorem dX6_comeHome_26 : decode cX6_comeHome 26 = .ok (.iload_n 1, 1) := by decide +kernel
theorem dX6_comeHome_27 : decode cX6_comeHome 27 = .ok (.aload_n 0, 1) := by decide +kernel
theorem dX6_comeHome_28 : decode cX6_comeHome 28 = .ok (.getfield 37, 3) := by decide +kernel
theorem dX6_comeHome_31 : decode cX6_comeHome 31 = .ok (.iastore, 1) := by decide +kernel
theorem dX6_comeHome_32 : decode cX6_comeHome 32 = .ok (.return_, 1) := by decide +kernel
theorem dX6_copy_0 : decode cX6_copy 0 = .ok (.aload_n 0, 1) := by decide +kernel
theorem dX6_copy_1 : decode cX6_copy 1 = .ok (.aload_n 1, 1) := by decide +kernel
theorem dX6_copy_2 : decode cX6_copy 2 = .ok (.getfield 30, 3) := by decide +kernel
theorem dX6_copy_5 : decode cX6_copy 5 = .ok (.putfield 30, 3) := by decide +kernel
theorem dX6_copy_8 : decode cX6_copy 8 = .ok (.aload_n 0, 1) := by decide +kernel
theorem dX6_copy_9 : decode cX6_copy 9 = .ok (.aload_n 1, 1) := by decide +kernel
theorem dX6_copy_10 : decode cX6_copy 10 = .ok (.getfield 34, 3) := by decide +kernel
theorem dX6_copy_13 : decode cX6_copy 13 = .ok (.putfield 34, 3) := by decide +kernel
theorem dX6_copy_16 : decode cX6_copy 16 = .ok (.aload_n 0, 1) := by decide +kernel
theorem dX6_copy_17 : decode cX6_copy 17 = .ok (.aload_n 1, 1) := by decide +kernel
theorem dX6_copy_18 : decode cX6_copy 18 = .ok (.getfield 37, 3) := by decide +kernel
theorem dX6_copy_21 : decode cX6_copy 21 = .ok (.putfield 37, 3) := by decide +kernel
theorem dX6_copy_24 : decode cX6_copy 24 = .ok (.aload_n 0, 1) := by decide +kernel
theorem dX6_copy_25 : decode cX6_copy 25 = .ok (.aload_n 1, 1) := by decide +kernel
theorem dX6_copy_26 : decode cX6_copy 26 = .ok (.getfield 40, 3) := by decide +kernel
theorem dX6_copy_29 : decode cX6_copy 29 = .ok (.putfield 40, 3) := by decide +kernel
theorem dX6_copy_32 : decode cX6_copy 32 = .ok (.aload_n 0, 1) := by decide +kernel
theorem dX6_copy_33 : decode cX6_copy 33 = .ok (.aload_n 1, 1) := by decide +kernel
theorem dX6_copy_34 : decode cX6_copy 34 = .ok (.getfield 43, 3) := by decide +kernel
theorem dX6_copy_37 : decode cX6_copy 37 = .ok (.putfield 43, 3) := by decide +kernel
theorem dX6_copy_40 : decode cX6_copy 40 = .ok (.iconst 0, 1) := by decide +kernel
theorem dX6_copy_41 : decode cX6_copy 41 = .ok (.istore_n 2, 1) := by decide +kernel
theorem dX6_copy_42 : decode cX6_copy 42 = .ok (.iload_n 2, 1) := by decide +kernel
theorem dX6_copy_43 : decode cX6_copy 43 = .ok (.aload_n 0, 1) := by decide +kernel
theorem dX6_copy_44 : decode cX6_copy 44 = .ok (.getfield 30, 3) := by decide +kernel
theorem dX6_copy_47 : decode cX6_copy 47 = .ok (.if_icmp .ge 87, 3) := by decide +kernel
theorem dX6_copy_50 : decode cX6_copy 50 = .ok (.iload_n 2, 1) := by decide +kernel
theorem dX6_copy_51 : decode cX6_copy 51 = .ok (.bipush 6, 2) := by decide +kernel
theorem dX6_copy_53 : decode cX6_copy 53 = .ok (.if_icmp .ge 81, 3) := by decide +kernel
theorem dX6_copy_56 : decode cX6_copy 56 = .ok (.aload_n 0, 1) := by decide +kernel
theorem dX6_copy_57 : decode cX6_copy 57 = .ok (.getfield 9, 3) := by decide +kernel
theorem dX6_copy_60 : decode cX6_copy 60 = .ok (.iload_n 2, 1) := by decide +kernel
theorem dX6_copy_61 : decode cX6_copy 61 = .ok (.aload_n 1, 1) := by decide +kernel
theorem dX6_copy_62 : decode cX6_copy 62 = .ok (.getfield 9, 3) := by decide +kernel
theorem dX6_copy_65 : decode cX6_copy 65 = .ok (.iload_n 2, 1) := by decide +kernel
theorem dX6_copy_66 : decode cX6_copy 66 = .ok (.iaload, 1) := by decide +kernel
theorem dX6_copy_67 : decode cX6_copy 67 = .ok (.iastore, 1) := by decide +kernel
theorem dX6_copy_68 : decode cX6_copy 68 = .ok (.aload_n 0, 1) := by decide +kernel
theorem dX6_copy_69 : decode cX6_copy 69 = .ok (.getfield 15, 3) := by decide +kernel
theorem dX6_copy_72 : decode cX6_copy 72 = .ok (.iload_n 2, 1) := by decide +kernel
theorem dX6_copy_73 : decode cX6_copy 73 = .ok (.aload_n 1, 1) := by decide +kernel
theorem dX6_copy_74 : decode cX6_copy 74 = .ok (.getfield 15, 3) := by decide +kernel
theorem dX6_copy_77 : decode cX6_copy 77 = .ok (.iload_n 2, 1) := by decide +kernel
theorem dX6_copy_78 : decode cX6_copy 78 = .ok (.iaload, 1) := by decide +kernel
theorem dX6_copy_79 : decode cX6_copy 79 = .ok (.iastore, 1) := by decide +kernel
theorem dX6_copy_80 : decode cX6_copy 80 = .ok (.aload_n 0, 1) := by decide +kernel
theorem dX6_copy_81 : decode cX6_copy 81 = .ok (.getfield 18, 3) := by decide +kernel
theorem dX6_copy_84 : decode cX6_copy 84 = .ok (.iload_n 2, 1) := by decide +kernel
theorem dX6_copy_85 : decode cX6_copy 85 = .ok (.aload_n 1, 1) := by decide +kernel
theorem dX6_copy_86 : decode cX6_copy 86 = .ok (.getfield 18, 3) := by decide +kernel
theorem dX6_copy_89 : decode cX6_copy 89 = .ok (.iload_n 2, 1) := by decide +kernel
theorem dX6_copy_90 : decode cX6_copy 90 = .ok (.iaload, 1) := by decide +kernel
theorem dX6_copy_91 : decode cX6_copy 91 = .ok (.iastore, 1) := by decide +kernel
theorem dX6_copy_92 : decode cX6_copy 92 = .ok (.aload_n 0, 1) := by decide +kernel
theorem dX6_copy_93 : decode cX6_copy 93 = .ok (.getfield 21, 3) := by decide +kernel
theorem dX6_copy_96 : decode cX6_copy 96 = .ok (.iload_n 2, 1) := by decide +kernel
theorem dX6_copy_97 : decode cX6_copy 97 = .ok (.aload_n 1, 1) := by decide +kernel
theorem dX6_copy_98 : decode cX6_copy 98 = .ok (.getfield 21, 3) := by decide +kernel
theorem dX6_copy_101 : decode cX6_copy 101 = .ok (.iload_n 2, 1) := by decide +kernel
theorem dX6_copy_102 : decode cX6_copy 102 = .ok (.iaload, 1) := by decide +kernel
theorem dX6_copy_103 : decode cX6_copy 103 = .ok (.iastore, 1) := by decide +kernel
theorem dX6_copy_104 : decode cX6_copy 104 = .ok (.aload_n 0, 1) := by decide +kernel
theorem dX6_copy_105 : decode cX6_copy 105 = .ok (.getfield 24, 3) := by decide +kernel
theorem dX6_copy_108 : decode cX6_copy 108 = .ok (.iload_n 2, 1) := by decide +kernel
theorem dX6_copy_109 : decode cX6_copy 109 = .ok (.aload_n 1, 1) := by decide +kernel
theorem dX6_copy_110 : decode cX6_copy 110 = .ok (.getfield 24, 3) := by decide +kernel
theorem dX6_copy_113 : decode cX6_copy 113 = .ok (.iload_n 2, 1) := by decide +kernel
theorem dX6_copy_114 : decode cX6_copy 114 = .ok (.iaload, 1) := by decide +kernel
theorem dX6_copy_115 : decode cX6_copy 115 = .ok (.iastore, 1) := by decide +kernel
theorem dX6_copy_116 : decode cX6_copy 116 = .ok (.aload_n 0, 1) := by decide +kernel
theorem dX6_copy_117 : decode cX6_copy 117 = .ok (.getfield 27, 3) := by decide +kernel
theorem dX6_copy_120 : decode cX6_copy 120 = .ok (.iload_n 2, 1) := by decide +kernel
theorem dX6_copy_121 : decode cX6_copy 121 = .ok (.aload_n 1, 1) := by decide +kernel
theorem dX6_copy_122 : decode cX6_copy 122 = .ok (.getfield 27, 3) := by decide +kernel
theorem dX6_copy_125 : decode cX6_copy 125 = .ok (.iload_n 2, 1) := by decide +kernel
theorem dX6_copy_126 : decode cX6_copy 126 = .ok (.iaload, 1) := by decide +kernel
theorem dX6_copy_127 : decode cX6_copy 127 = .ok (.iastore, 1) := by decide +kernel
theorem dX6_copy_128 : decode cX6_copy 128 = .ok (.iinc 2 1, 3) := by decide +kernel
theorem dX6_copy_131 : decode cX6_copy 131 = .ok (.goto (-89), 3) := by decide +kernel
theorem dX6_copy_134 : decode cX6_copy 134 = .ok (.return_, 1) := by decide +kernel
theorem dX6_isAfloat_0 : decode cX6_isAfloat 0 = .ok (.iload_n 1, 1) := by decide +kernel
theorem dX6_isAfloat_1 : decode cX6_isAfloat 1 = .ok (.ifCond .lt 26, 3) := by decide +kernel
theorem dX6_isAfloat_4 : decode cX6_isAfloat 4 = .ok (.iload_n 1, 1) := by decide +kernel
theorem dX6_isAfloat_5 : decode cX6_isAfloat 5 = .ok (.bipush 6, 2) := by decide +kernel
theorem dX6_isAfloat_7 : decode cX6_isAfloat 7 = .ok (.if_icmp .ge 20, 3) := by decide +kernel
theorem dX6_isAfloat_10 : decode cX6_isAfloat 10 = .ok (.aload_n 0, 1) := by decide +kernel
theorem dX6_isAfloat_11 : decode cX6_isAfloat 11 = .ok (.getfield 24, 3) := by decide +kernel
theorem dX6_isAfloat_14 : decode cX6_isAfloat 14 = .ok (.iload_n 1, 1) := by decide +kernel
theorem dX6_isAfloat_15 : decode cX6_isAfloat 15 = .ok (.iaload, 1) := by decide +kernel
theorem dX6_isAfloat_16 : decode cX6_isAfloat 16 = .ok (.aload_n 0, 1) := by decide +kernel
theorem dX6_isAfloat_17 : decode cX6_isAfloat 17 = .ok (.getfield 37, 3) := by decide +kernel
theorem dX6_isAfloat_20 : decode cX6_isAfloat 20 = .ok (.if_icmp .gt 7, 3) := by decide +kernel
theorem dX6_isAfloat_23 : decode cX6_isAfloat 23 = .ok (.iconst 1, 1) := by decide +kernel
theorem dX6_isAfloat_24 : decode cX6_isAfloat 24 = .ok (.goto 4, 3) := by decide +kernel
theorem dX6_isAfloat_27 : decode cX6_isAfloat 27 = .ok (.iconst 0, 1) := by decide +kernel
theorem dX6_isAfloat_28 : decode cX6_isAfloat 28 = .ok (.istore_n 2, 1) := by decide +kernel
theorem dX6_isAfloat_29 : decode cX6_isAfloat 29 = .ok (.iload_n 2, 1) := by decide +kernel
theorem dX6_isAfloat_30 : decode cX6_isAfloat 30 = .ok (.ifCond .eq 23, 3) := by decide +kernel
theorem dX6_isAfloat_33 : decode cX6_isAfloat 33 = .ok (.aload_n 0, 1) := by decide +kernel
theorem dX6_isAfloat_34 : decode cX6_isAfloat 34 = .ok (.getfield 40, 3) := by decide +kernel
theorem dX6_isAfloat_37 : decode cX6_isAfloat 37 = .ok (.aload_n 0, 1) := by decide +kernel
theorem dX6_isAfloat_38 : decode cX6_isAfloat 38 = .ok (.getfield 43, 3) := by decide +kernel
theorem dX6_isAfloat_41 : decode cX6_isAfloat 41 = .ok (.ior, 1) := by decide +kernel
theorem dX6_isAfloat_42 : decode cX6_isAfloat 42 = .ok (.iload_n 1, 1) := by decide +kernel
theorem dX6_isAfloat_43 : decode cX6_isAfloat 43 = .ok (.ishr, 1) := by decide +kernel
theorem dX6_isAfloat_44 : decode cX6_isAfloat 44 = .ok (.iconst 1, 1) := by decide +kernel
theorem dX6_isAfloat_45 : decode cX6_isAfloat 45 = .ok (.iand, 1) := by decide +kernel
theorem dX6_isAfloat_46 : decode cX6_isAfloat 46 = .ok (.ifCond .ne 7, 3) := by decide +kernel
theorem dX6_isAfloat_49 : decode cX6_isAfloat 49 = .ok (.iconst 1, 1) := by decide +kernel
theorem dX6_isAfloat_50 : decode cX6_isAfloat 50 = .ok (.goto 4, 3) := by decide +kernel
theorem dX6_isAfloat_53 : decode cX6_isAfloat 53 = .ok (.iconst 0, 1) := by decide +kernel
theorem dX6_isAfloat_54 : decode cX6_isAfloat 54 = .ok (.ireturn, 1) := by decide +kernel
theorem dX6_lose_0 : decode cX6_lose 0 = .ok (.iload_n 1, 1) := by decide +kernel
theorem dX6_lose_1 : decode cX6_lose 1 = .ok (.ifCond .lt 31, 3) := by decide +kernel
theorem dX6_lose_4 : decode cX6_lose 4 = .ok (.iload_n 1, 1) := by decide +kernel
theorem dX6_lose_5 : decode cX6_lose 5 = .ok (.bipush 6, 2) := by decide +kernel
theorem dX6_lose_7 : decode cX6_lose 7 = .ok (.if_icmp .ge 25, 3) := by decide +kernel
theorem dX6_lose_10 : decode cX6_lose 10 = .ok (.aload_n 0, 1) := by decide +kernel
theorem dX6_lose_11 : decode cX6_lose 11 = .ok (.dup, 1) := by decide +kernel
theorem dX6_lose_12 : decode cX6_lose 12 = .ok (.getfield 43, 3) := by decide +kernel
theorem dX6_lose_15 : decode cX6_lose 15 = .ok (.iconst 1, 1) := by decide +kernel
theorem dX6_lose_16 : decode cX6_lose 16 = .ok (.iload_n 1, 1) := by decide +kernel
theorem dX6_lose_17 : decode cX6_lose 17 = .ok (.ishl, 1) := by decide +kernel
theorem dX6_lose_18 : decode cX6_lose 18 = .ok (.ior, 1) := by decide +kernel
theorem dX6_lose_19 : decode cX6_lose 19 = .ok (.putfield 43, 3) := by decide +kernel
theorem dX6_lose_22 : decode cX6_lose 22 = .ok (.aload_n 0, 1) := by decide +kernel
theorem dX6_lose_23 : decode cX6_lose 23 = .ok (.getfield 27, 3) := by decide +kernel
theorem dX6_lose_26 : decode cX6_lose 26 = .ok (.iload_n 1, 1) := by decide +kernel
theorem dX6_lose_27 : decode cX6_lose 27 = .ok (.aload_n 0, 1) := by decide +kernel
theorem dX6_lose_28 : decode cX6_lose 28 = .ok (.getfield 37, 3) := by decide +kernel
theorem dX6_lose_31 : decode cX6_lose 31 = .ok (.iastore, 1) := by decide +kernel
theorem dX6_lose_32 : decode cX6_lose 32 = .ok (.return_, 1) := by decide +kernel
theorem dX6_move_0 : decode cX6_move 0 = .ok (.iload_n 1, 1) := by decide +kernel
theorem dX6_move_1 : decode cX6_move 1 = .ok (.ifCond .lt 28, 3) := by decide +kernel
theorem dX6_move_4 : decode cX6_move 4 = .ok (.iload_n 1, 1) := by decide +kernel
theorem dX6_move_5 : decode cX6_move 5 = .ok (.bipush 6, 2) := by decide +kernel
theorem dX6_move_7 : decode cX6_move 7 = .ok (.if_icmp .ge 22, 3) := by decide +kernel
theorem dX6_move_10 : decode cX6_move 10 = .ok (.aload_n 0, 1) := by decide +kernel
theorem dX6_move_11 : decode cX6_move 11 = .ok (.getfield 9, 3) := by decide +kernel
theorem dX6_move_14 : decode cX6_move 14 = .ok (.iload_n 1, 1) := by decide +kernel
theorem dX6_move_15 : decode cX6_move 15 = .ok (.iload_n 2, 1) := by decide +kernel
theorem dX6_move_16 : decode cX6_move 16 = .ok (.iastore, 1) := by decide +kernel
theorem dX6_move_17 : decode cX6_move 17 = .ok (.aload_n 0, 1) := by decide +kernel
theorem dX6_move_18 : decode cX6_move 18 = .ok (.getfield 21, 3) := by decide +kernel
theorem dX6_move_21 : decode cX6_move 21 = .ok (.iload_n 1, 1) := by decide +kernel
theorem dX6_move_22 : decode cX6_move 22 = .ok (.dup2, 1) := by decide +kernel
theorem dX6_move_23 : decode cX6_move 23 = .ok (.iaload, 1) := by decide +kernel
theorem dX6_move_24 : decode cX6_move 24 = .ok (.iconst 1, 1) := by decide +kernel
theorem dX6_move_25 : decode cX6_move 25 = .ok (.iload_n 2, 1) := by decide +kernel
theorem dX6_move_26 : decode cX6_move 26 = .ok (.ishl, 1) := by decide +kernel
theorem dX6_move_27 : decode cX6_move 27 = .ok (.ior, 1) := by decide +kernel
theorem dX6_move_28 : decode cX6_move 28 = .ok (.iastore, 1) := by decide +kernel
theorem dX6_move_29 : decode cX6_move 29 = .ok (.return_, 1) := by decide +kernel
theorem dX6_paperOf_0 : decode cX6_paperOf 0 = .ok (.iload_n 1, 1) := by decide +kernel
theorem dX6_paperOf_1 : decode cX6_paperOf 1 = .ok (.ifCond .lt 18, 3) := by decide +kernel
theorem dX6_paperOf_4 : decode cX6_paperOf 4 = .ok (.iload_n 1, 1) := by decide +kernel
theorem dX6_paperOf_5 : decode cX6_paperOf 5 = .ok (.bipush 6, 2) := by decide +kernel
theorem dX6_paperOf_7 : decode cX6_paperOf 7 = .ok (.if_icmp .ge 12, 3) := by decide +kernel
theorem dX6_paperOf_10 : decode cX6_paperOf 10 = .ok (.aload_n 0, 1) := by decide +kernel
theorem dX6_paperOf_11 : decode cX6_paperOf 11 = .ok (.getfield 15, 3) := by decide +kernel
theorem dX6_paperOf_14 : decode cX6_paperOf 14 = .ok (.iload_n 1, 1) := by decide +kernel
theorem dX6_paperOf_15 : decode cX6_paperOf 15 = .ok (.iaload, 1) := by decide +kernel
theorem dX6_paperOf_16 : decode cX6_paperOf 16 = .ok (.goto 4, 3) := by decide +kernel
theorem dX6_paperOf_19 : decode cX6_paperOf 19 = .ok (.iconst 0, 1) := by decide +kernel
theorem dX6_paperOf_20 : decode cX6_paperOf 20 = .ok (.ireturn, 1) := by decide +kernel
theorem dX6_purseOf_0 : decode cX6_purseOf 0 = .ok (.iload_n 1, 1) := by decide +kernel
theorem dX6_purseOf_1 : decode cX6_purseOf 1 = .ok (.ifCond .lt 18, 3) := by decide +kernel
theorem dX6_purseOf_4 : decode cX6_purseOf 4 = .ok (.iload_n 1, 1) := by decide +kernel
theorem dX6_purseOf_5 : decode cX6_purseOf 5 = .ok (.bipush 6, 2) := by decide +kernel
theorem dX6_purseOf_7 : decode cX6_purseOf 7 = .ok (.if_icmp .ge 12, 3) := by decide +kernel
theorem dX6_purseOf_10 : decode cX6_purseOf 10 = .ok (.aload_n 0, 1) := by decide +kernel
theorem dX6_purseOf_11 : decode cX6_purseOf 11 = .ok (.getfield 18, 3) := by decide +kernel
theorem dX6_purseOf_14 : decode cX6_purseOf 14 = .ok (.iload_n 1, 1) := by decide +kernel
theorem dX6_purseOf_15 : decode cX6_purseOf 15 = .ok (.iaload, 1) := by decide +kernel
theorem dX6_purseOf_16 : decode cX6_purseOf 16 = .ok (.goto 4, 3) := by decide +kernel
theorem dX6_purseOf_19 : decode cX6_purseOf 19 = .ok (.iconst 0, 1) := by decide +kernel
theorem dX6_purseOf_20 : decode cX6_purseOf 20 = .ok (.ireturn, 1) := by decide +kernel
theorem dX6_setPaper_0 : decode cX6_setPaper 0 = .ok (.iload_n 1, 1) := by decide +kernel
theorem dX6_setPaper_1 : decode cX6_setPaper 1 = .ok (.ifCond .lt 16, 3) := by decide +kernel
theorem dX6_setPaper_4 : decode cX6_setPaper 4 = .ok (.iload_n 1, 1) := by decide +kernel
theorem dX6_setPaper_5 : decode cX6_setPaper 5 = .ok (.bipush 6, 2) := by decide +kernel
theorem dX6_setPaper_7 : decode cX6_setPaper 7 = .ok (.if_icmp .ge 10, 3) := by decide +kernel
theorem dX6_setPaper_10 : decode cX6_setPaper 10 = .ok (.aload_n 0, 1) := by decide +kernel
theorem dX6_setPaper_11 : decode cX6_setPaper 11 = .ok (.getfield 15, 3) := by decide +kernel
theorem dX6_setPaper_14 : decode cX6_setPaper 14 = .ok (.iload_n 1, 1) := by decide +kernel
theorem dX6_setPaper_15 : decode cX6_setPaper 15 = .ok (.iload_n 2, 1) := by decide +kernel
theorem dX6_setPaper_16 : decode cX6_setPaper 16 = .ok (.iastore, 1) := by decide +kernel
theorem dX6_setPaper_17 : decode cX6_setPaper 17 = .ok (.return_, 1) := by decide +kernel
theorem dX6_setPurse_0 : decode cX6_setPurse 0 = .ok (.iload_n 1, 1) := by decide +kernel
theorem dX6_setPurse_1 : decode cX6_setPurse 1 = .ok (.ifCond .lt 16, 3) := by decide +kernel
theorem dX6_setPurse_4 : decode cX6_setPurse 4 = .ok (.iload_n 1, 1) := by decide +kernel
theorem dX6_setPurse_5 : decode cX6_setPurse 5 = .ok (.bipush 6, 2) := by decide +kernel
theorem dX6_setPurse_7 : decode cX6_setPurse 7 = .ok (.if_icmp .ge 10, 3) := by decide +kernel
theorem dX6_setPurse_10 : decode cX6_setPurse 10 = .ok (.aload_n 0, 1) := by decide +kernel
theorem dX6_setPurse_11 : decode cX6_setPurse 11 = .ok (.getfield 18, 3) := by decide +kernel
theorem dX6_setPurse_14 : decode cX6_setPurse 14 = .ok (.iload_n 1, 1) := by decide +kernel
theorem dX6_setPurse_15 : decode cX6_setPurse 15 = .ok (.iload_n 2, 1) := by decide +kernel
theorem dX6_setPurse_16 : decode cX6_setPurse 16 = .ok (.iastore, 1) := by decide +kernel
theorem dX6_setPurse_17 : decode cX6_setPurse 17 = .ok (.return_, 1) := by decide +kernel
theorem dX6_spotOf_0 : decode cX6_spotOf 0 = .ok (.iload_n 1, 1) := by decide +kernel
theorem dX6_spotOf_1 : decode cX6_spotOf 1 = .ok (.ifCond .lt 18, 3) := by decide +kernel
theorem dX6_spotOf_4 : decode cX6_spotOf 4 = .ok (.iload_n 1, 1) := by decide +kernel
theorem dX6_spotOf_5 : decode cX6_spotOf 5 = .ok (.bipush 6, 2) := by decide +kernel
theorem dX6_spotOf_7 : decode cX6_spotOf 7 = .ok (.if_icmp .ge 12, 3) := by decide +kernel
theorem dX6_spotOf_10 : decode cX6_spotOf 10 = .ok (.aload_n 0, 1) := by decide +kernel
theorem dX6_spotOf_11 : decode cX6_spotOf 11 = .ok (.getfield 9, 3) := by decide +kernel
theorem dX6_spotOf_14 : decode cX6_spotOf 14 = .ok (.iload_n 1, 1) := by decide +kernel
theorem dX6_spotOf_15 : decode cX6_spotOf 15 = .ok (.iaload, 1) := by decide +kernel
theorem dX6_spotOf_16 : decode cX6_spotOf 16 = .ok (.goto 4, 3) := by decide +kernel
theorem dX6_spotOf_19 : decode cX6_spotOf 19 = .ok (.iconst (-1), 1) := by decide +kernel
theorem dX6_spotOf_20 : decode cX6_spotOf 20 = .ok (.ireturn, 1) := by decide +kernel
theorem dX7_digit_0 : decode cX7_digit 0 = .ok (.aload_n 0, 1) := by decide +kernel
theorem dX7_digit_1 : decode cX7_digit 1 = .ok (.iload_n 1, 1) := by decide +kernel
theorem dX7_digit_2 : decode cX7_digit 2 = .ok (.invokevirtual 28, 3) := by decide +kernel
theorem dX7_digit_5 : decode cX7_digit 5 = .ok (.istore_n 2, 1) := by decide +kernel
theorem dX7_digit_6 : decode cX7_digit 6 = .ok (.iload_n 2, 1) := by decide +kernel
theorem dX7_digit_7 : decode cX7_digit 7 = .ok (.bipush 48, 2) := by decide +kernel
theorem dX7_digit_9 : decode cX7_digit 9 = .ok (.if_icmp .lt 16, 3) := by decide +kernel
theorem dX7_digit_12 : decode cX7_digit 12 = .ok (.iload_n 2, 1) := by decide +kernel
theorem dX7_digit_13 : decode cX7_digit 13 = .ok (.bipush 57, 2) := by decide +kernel
theorem dX7_digit_15 : decode cX7_digit 15 = .ok (.if_icmp .gt 10, 3) := by decide +kernel
theorem dX7_digit_18 : decode cX7_digit 18 = .ok (.iload_n 2, 1) := by decide +kernel
theorem dX7_digit_19 : decode cX7_digit 19 = .ok (.bipush 48, 2) := by decide +kernel
theorem dX7_digit_21 : decode cX7_digit 21 = .ok (.isub, 1) := by decide +kernel
theorem dX7_digit_22 : decode cX7_digit 22 = .ok (.goto 4, 3) := by decide +kernel
theorem dX7_digit_25 : decode cX7_digit 25 = .ok (.iconst (-1), 1) := by decide +kernel
theorem dX7_digit_26 : decode cX7_digit 26 = .ok (.ireturn, 1) := by decide +kernel
theorem dX7_isOver_0 : decode cX7_isOver 0 = .ok (.iload_n 1, 1) := by decide +kernel
theorem dX7_isOver_1 : decode cX7_isOver 1 = .ok (.aload_n 0, 1) := by decide +kernel
theorem dX7_isOver_2 : decode cX7_isOver 2 = .ok (.getfield 15, 3) := by decide +kernel
theorem dX7_isOver_5 : decode cX7_isOver 5 = .ok (.if_icmp .lt 7, 3) := by decide +kernel
theorem dX7_isOver_8 : decode cX7_isOver 8 = .ok (.iconst 1, 1) := by decide +kernel
theorem dX7_isOver_9 : decode cX7_isOver 9 = .ok (.goto 4, 3) := by decide +kernel
theorem dX7_isOver_12 : decode cX7_isOver 12 = .ok (.iconst 0, 1) := by decide +kernel
theorem dX7_isOver_13 : decode cX7_isOver 13 = .ok (.ireturn, 1) := by decide +kernel
theorem dX7_look_0 : decode cX7_look 0 = .ok (.iload_n 1, 1) := by decide +kernel
theorem dX7_look_1 : decode cX7_look 1 = .ok (.ifCond .lt 26, 3) := by decide +kernel
theorem dX7_look_4 : decode cX7_look 4 = .ok (.iload_n 1, 1) := by decide +kernel
theorem dX7_look_5 : decode cX7_look 5 = .ok (.aload_n 0, 1) := by decide +kernel
theorem dX7_look_6 : decode cX7_look 6 = .ok (.getfield 25, 3) := by decide +kernel
theorem dX7_look_9 : decode cX7_look 9 = .ok (.if_icmp .ge 18, 3) := by decide +kernel
theorem dX7_look_12 : decode cX7_look 12 = .ok (.iload_n 1, 1) := by decide +kernel
theorem dX7_look_13 : decode cX7_look 13 = .ok (.bipush 80, 2) := by decide +kernel
theorem dX7_look_15 : decode cX7_look 15 = .ok (.if_icmp .ge 12, 3) := by decide +kernel
theorem dX7_look_18 : decode cX7_look 18 = .ok (.aload_n 0, 1) := by decide +kernel
theorem dX7_look_19 : decode cX7_look 19 = .ok (.getfield 11, 3) := by decide +kernel
theorem dX7_look_22 : decode cX7_look 22 = .ok (.iload_n 1, 1) := by decide +kernel
theorem dX7_look_23 : decode cX7_look 23 = .ok (.iaload, 1) := by decide +kernel
theorem dX7_look_24 : decode cX7_look 24 = .ok (.goto 4, 3) := by decide +kernel
theorem dX7_look_27 : decode cX7_look 27 = .ok (.iconst (-1), 1) := by decide +kernel
theorem dX7_look_28 : decode cX7_look 28 = .ok (.ireturn, 1) := by decide +kernel
theorem dX7_showAtMost_0 : decode cX7_showAtMost 0 = .ok (.aload_n 0, 1) := by decide +kernel
theorem dX7_showAtMost_1 : decode cX7_showAtMost 1 = .ok (.iload_n 1, 1) := by decide +kernel
theorem dX7_showAtMost_2 : decode cX7_showAtMost 2 = .ok (.aload_n 0, 1) := by decide +kernel
theorem dX7_showAtMost_3 : decode cX7_showAtMost 3 = .ok (.getfield 15, 3) := by decide +kernel
theorem dX7_showAtMost_6 : decode cX7_showAtMost 6 = .ok (.invokestatic 19, 3) := by decide +kernel
theorem dX7_showAtMost_9 : decode cX7_showAtMost 9 = .ok (.putfield 25, 3) := by decide +kernel
theorem dX7_showAtMost_12 : decode cX7_showAtMost 12 = .ok (.return_, 1) := by decide +kernel
theorem dX8_figureOf_0 : decode cX8_figureOf 0 = .ok (.iload_n 1, 1) := by decide +kernel
theorem dX8_figureOf_1 : decode cX8_figureOf 1 = .ok (.ifCond .lt 18, 3) := by decide +kernel
theorem dX8_figureOf_4 : decode cX8_figureOf 4 = .ok (.iload_n 1, 1) := by decide +kernel
theorem dX8_figureOf_5 : decode cX8_figureOf 5 = .ok (.bipush 12, 2) := by decide +kernel
theorem dX8_figureOf_7 : decode cX8_figureOf 7 = .ok (.if_icmp .ge 12, 3) := by decide +kernel
theorem dX8_figureOf_10 : decode cX8_figureOf 10 = .ok (.aload_n 0, 1) := by decide +kernel
theorem dX8_figureOf_11 : decode cX8_figureOf 11 = .ok (.getfield 21, 3) := by decide +kernel
theorem dX8_figureOf_14 : decode cX8_figureOf 14 = .ok (.iload_n 1, 1) := by decide +kernel
theorem dX8_figureOf_15 : decode cX8_figureOf 15 = .ok (.iaload, 1) := by decide +kernel
theorem dX8_figureOf_16 : decode cX8_figureOf 16 = .ok (.goto 4, 3) := by decide +kernel
theorem dX8_figureOf_19 : decode cX8_figureOf 19 = .ok (.iconst 0, 1) := by decide +kernel
theorem dX8_figureOf_20 : decode cX8_figureOf 20 = .ok (.ireturn, 1) := by decide +kernel
theorem dX8_isKitchen_0 : decode cX8_isKitchen 0 = .ok (.iload_n 1, 1) := by decide +kernel
theorem dX8_isKitchen_1 : decode cX8_isKitchen 1 = .ok (.ifCond .lt 24, 3) := by decide +kernel
theorem dX8_isKitchen_4 : decode cX8_isKitchen 4 = .ok (.iload_n 1, 1) := by decide +kernel
theorem dX8_isKitchen_5 : decode cX8_isKitchen 5 = .ok (.bipush 12, 2) := by decide +kernel
theorem dX8_isKitchen_7 : decode cX8_isKitchen 7 = .ok (.if_icmp .ge 18, 3) := by decide +kernel
theorem dX8_isKitchen_10 : decode cX8_isKitchen 10 = .ok (.aload_n 0, 1) := by decide +kernel
theorem dX8_isKitchen_11 : decode cX8_isKitchen 11 = .ok (.getfield 37, 3) := by decide +kernel
theorem dX8_isKitchen_14 : decode cX8_isKitchen 14 = .ok (.iload_n 1, 1) := by decide +kernel
theorem dX8_isKitchen_15 : decode cX8_isKitchen 15 = .ok (.ishr, 1) := by decide +kernel
theorem dX8_isKitchen_16 : decode cX8_isKitchen 16 = .ok (.iconst 1, 1) := by decide +kernel
theorem dX8_isKitchen_17 : decode cX8_isKitchen 17 = .ok (.iand, 1) := by decide +kernel
theorem dX8_isKitchen_18 : decode cX8_isKitchen 18 = .ok (.ifCond .eq 7, 3) := by decide +kernel
theorem dX8_isKitchen_21 : decode cX8_isKitchen 21 = .ok (.iconst 1, 1) := by decide +kernel
theorem dX8_isKitchen_22 : decode cX8_isKitchen 22 = .ok (.goto 4, 3) := by decide +kernel
theorem dX8_isKitchen_25 : decode cX8_isKitchen 25 = .ok (.iconst 0, 1) := by decide +kernel
theorem dX8_isKitchen_26 : decode cX8_isKitchen 26 = .ok (.ireturn, 1) := by decide +kernel
theorem dX8_kindOf_0 : decode cX8_kindOf 0 = .ok (.iload_n 1, 1) := by decide +kernel
theorem dX8_kindOf_1 : decode cX8_kindOf 1 = .ok (.ifCond .lt 18, 3) := by decide +kernel
theorem dX8_kindOf_4 : decode cX8_kindOf 4 = .ok (.iload_n 1, 1) := by decide +kernel
theorem dX8_kindOf_5 : decode cX8_kindOf 5 = .ok (.bipush 12, 2) := by decide +kernel
theorem dX8_kindOf_7 : decode cX8_kindOf 7 = .ok (.if_icmp .ge 12, 3) := by decide +kernel
theorem dX8_kindOf_10 : decode cX8_kindOf 10 = .ok (.aload_n 0, 1) := by decide +kernel
theorem dX8_kindOf_11 : decode cX8_kindOf 11 = .ok (.getfield 9, 3) := by decide +kernel
theorem dX8_kindOf_14 : decode cX8_kindOf 14 = .ok (.iload_n 1, 1) := by decide +kernel
theorem dX8_kindOf_15 : decode cX8_kindOf 15 = .ok (.iaload, 1) := by decide +kernel
theorem dX8_kindOf_16 : decode cX8_kindOf 16 = .ok (.goto 5, 3) := by decide +kernel
theorem dX8_kindOf_19 : decode cX8_kindOf 19 = .ok (.bipush 6, 2) := by decide +kernel
theorem dX8_kindOf_21 : decode cX8_kindOf 21 = .ok (.ireturn, 1) := by decide +kernel
theorem dX8_nextOf_0 : decode cX8_nextOf 0 = .ok (.iload_n 1, 1) := by decide +kernel
theorem dX8_nextOf_1 : decode cX8_nextOf 1 = .ok (.ifCond .lt 18, 3) := by decide +kernel
theorem dX8_nextOf_4 : decode cX8_nextOf 4 = .ok (.iload_n 1, 1) := by decide +kernel
theorem dX8_nextOf_5 : decode cX8_nextOf 5 = .ok (.bipush 12, 2) := by decide +kernel
theorem dX8_nextOf_7 : decode cX8_nextOf 7 = .ok (.if_icmp .ge 12, 3) := by decide +kernel
theorem dX8_nextOf_10 : decode cX8_nextOf 10 = .ok (.aload_n 0, 1) := by decide +kernel
theorem dX8_nextOf_11 : decode cX8_nextOf 11 = .ok (.getfield 15, 3) := by decide +kernel
theorem dX8_nextOf_14 : decode cX8_nextOf 14 = .ok (.iload_n 1, 1) := by decide +kernel
theorem dX8_nextOf_15 : decode cX8_nextOf 15 = .ok (.iaload, 1) := by decide +kernel
theorem dX8_nextOf_16 : decode cX8_nextOf 16 = .ok (.goto 4, 3) := by decide +kernel
theorem dX8_nextOf_19 : decode cX8_nextOf 19 = .ok (.iconst (-1), 1) := by decide +kernel
theorem dX8_nextOf_20 : decode cX8_nextOf 20 = .ok (.ireturn, 1) := by decide +kernel
theorem dX8_secondOf_0 : decode cX8_secondOf 0 = .ok (.iload_n 1, 1) := by decide +kernel
theorem dX8_secondOf_1 : decode cX8_secondOf 1 = .ok (.ifCond .lt 18, 3) := by decide +kernel
theorem dX8_secondOf_4 : decode cX8_secondOf 4 = .ok (.iload_n 1, 1) := by decide +kernel
theorem dX8_secondOf_5 : decode cX8_secondOf 5 = .ok (.bipush 12, 2) := by decide +kernel
theorem dX8_secondOf_7 : decode cX8_secondOf 7 = .ok (.if_icmp .ge 12, 3) := by decide +kernel
theorem dX8_secondOf_10 : decode cX8_secondOf 10 = .ok (.aload_n 0, 1) := by decide +kernel
theorem dX8_secondOf_11 : decode cX8_secondOf 11 = .ok (.getfield 18, 3) := by decide +kernel
theorem dX8_secondOf_14 : decode cX8_secondOf 14 = .ok (.iload_n 1, 1) := by decide +kernel
theorem dX8_secondOf_15 : decode cX8_secondOf 15 = .ok (.iaload, 1) := by decide +kernel
theorem dX8_secondOf_16 : decode cX8_secondOf 16 = .ok (.goto 4, 3) := by decide +kernel
theorem dX8_secondOf_19 : decode cX8_secondOf 19 = .ok (.iconst (-1), 1) := by decide +kernel
theorem dX8_secondOf_20 : decode cX8_secondOf 20 = .ok (.ireturn, 1) := by decide +kernel
theorem dX9_begin_0 : decode cX9_begin 0 = .ok (.aload_n 0, 1) := by decide +kernel
theorem dX9_begin_1 : decode cX9_begin 1 = .ok (.getfield 29, 3) := by decide +kernel
theorem dX9_begin_4 : decode cX9_begin 4 = .ok (.aload_n 0, 1) := by decide +kernel
theorem dX9_begin_5 : decode cX9_begin 5 = .ok (.getfield 25, 3) := by decide +kernel
theorem dX9_begin_8 : decode cX9_begin 8 = .ok (.invokevirtual 63, 3) := by decide +kernel
theorem dX9_begin_11 : decode cX9_begin 11 = .ok (.aload_n 0, 1) := by decide +kernel
theorem dX9_begin_12 : decode cX9_begin 12 = .ok (.getfield 29, 3) := by decide +kernel
theorem dX9_begin_15 : decode cX9_begin 15 = .ok (.iload_n 1, 1) := by decide +kernel
theorem dX9_begin_16 : decode cX9_begin 16 = .ok (.putfield 77, 3) := by decide +kernel
theorem dX9_begin_19 : decode cX9_begin 19 = .ok (.aload_n 0, 1) := by decide +kernel
theorem dX9_begin_20 : decode cX9_begin 20 = .ok (.getfield 36, 3) := by decide +kernel
theorem dX9_begin_23 : decode cX9_begin 23 = .ok (.iconst 0, 1) := by decide +kernel
theorem dX9_begin_24 : decode cX9_begin 24 = .ok (.putfield 80, 3) := by decide +kernel
theorem dX9_begin_27 : decode cX9_begin 27 = .ok (.aload_n 0, 1) := by decide +kernel
theorem dX9_begin_28 : decode cX9_begin 28 = .ok (.getfield 36, 3) := by decide +kernel
theorem dX9_begin_31 : decode cX9_begin 31 = .ok (.iconst 0, 1) := by decide +kernel
theorem dX9_begin_32 : decode cX9_begin 32 = .ok (.putfield 83, 3) := by decide +kernel
theorem dX9_begin_35 : decode cX9_begin 35 = .ok (.return_, 1) := by decide +kernel
theorem dX9_thinkOf_0 : decode cX9_thinkOf 0 = .ok (.aload_n 0, 1) := by decide +kernel
theorem dX9_thinkOf_1 : decode cX9_thinkOf 1 = .ok (.getfield 25, 3) := by decide +kernel
theorem dX9_thinkOf_4 : decode cX9_thinkOf 4 = .ok (.invokevirtual 40, 3) := by decide +kernel
theorem dX9_thinkOf_7 : decode cX9_thinkOf 7 = .ok (.aload_n 0, 1) := by decide +kernel
theorem dX9_thinkOf_8 : decode cX9_thinkOf 8 = .ok (.getfield 25, 3) := by decide +kernel
theorem dX9_thinkOf_11 : decode cX9_thinkOf 11 = .ok (.iload 5, 2) := by decide +kernel
theorem dX9_thinkOf_13 : decode cX9_thinkOf 13 = .ok (.putfield 43, 3) := by decide +kernel
theorem dX9_thinkOf_16 : decode cX9_thinkOf 16 = .ok (.aload_n 0, 1) := by decide +kernel
theorem dX9_thinkOf_17 : decode cX9_thinkOf 17 = .ok (.getfield 25, 3) := by decide +kernel
theorem dX9_thinkOf_20 : decode cX9_thinkOf 20 = .ok (.iload_n 1, 1) := by decide +kernel
theorem dX9_thinkOf_21 : decode cX9_thinkOf 21 = .ok (.iload_n 2, 1) := by decide +kernel
theorem dX9_thinkOf_22 : decode cX9_thinkOf 22 = .ok (.iload_n 3, 1) := by decide +kernel
theorem dX9_thinkOf_23 : decode cX9_thinkOf 23 = .ok (.iload 4, 2) := by decide +kernel
theorem dX9_thinkOf_25 : decode cX9_thinkOf 25 = .ok (.aload_n 0, 1) := by decide +kernel
theorem dX9_thinkOf_26 : decode cX9_thinkOf 26 = .ok (.getfield 32, 3) := by decide +kernel
theorem dX9_thinkOf_29 : decode cX9_thinkOf 29 = .ok (.iload_n 1, 1) := by decide +kernel
theorem dX9_thinkOf_30 : decode cX9_thinkOf 30 = .ok (.invokevirtual 47, 3) := by decide +kernel
theorem dX9_thinkOf_33 : decode cX9_thinkOf 33 = .ok (.invokevirtual 53, 3) := by decide +kernel
theorem dX9_thinkOf_36 : decode cX9_thinkOf 36 = .ok (.pop, 1) := by decide +kernel
theorem dX9_thinkOf_37 : decode cX9_thinkOf 37 = .ok (.aload_n 0, 1) := by decide +kernel
theorem dX9_thinkOf_38 : decode cX9_thinkOf 38 = .ok (.iconst 1, 1) := by decide +kernel
theorem dX9_thinkOf_39 : decode cX9_thinkOf 39 = .ok (.putfield 57, 3) := by decide +kernel
theorem dX9_thinkOf_42 : decode cX9_thinkOf 42 = .ok (.aload_n 0, 1) := by decide +kernel
theorem dX9_thinkOf_43 : decode cX9_thinkOf 43 = .ok (.iconst 0, 1) := by decide +kernel
theorem dX9_thinkOf_44 : decode cX9_thinkOf 44 = .ok (.putfield 60, 3) := by decide +kernel
theorem dX9_thinkOf_47 : decode cX9_thinkOf 47 = .ok (.return_, 1) := by decide +kernel
