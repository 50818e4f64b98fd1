theorem mw_0 : (Cond.selects RX8 yX8_clear yX8_clear) ∈ gx_G := gx_mem 0 (by decide +kernel) (by decide +kernel)
theorem mw_8 : (Cond.selects RX5 yX5_clear yX5_clear) ∈ gx_G := gx_mem 8 (by decide +kernel) (by decide +kernel)
theorem mw_9 : (Cond.selects RX5 yX5_addFact yX5_addFact) ∈ gx_G := gx_mem 9 (by decide +kernel) (by decide +kernel)
theorem mw_10 : (Cond.selects RX5 yX5_addStep yX5_addStep) ∈ gx_G := gx_mem 10 (by decide +kernel) (by decide +kernel)
theorem mw_18 : (Cond.selects RX11 yX11_passMinutes yX11_passMinutes) ∈ gx_G := gx_mem 18 (by decide +kernel) (by decide +kernel)
theorem mw_19 : (Cond.selects RX1 yX1_flowIn yX1_flowIn) ∈ gx_G := gx_mem 19 (by decide +kernel) (by decide +kernel)
theorem mw_33 : (Cond.selects RX11 yX11_fewestTurns yX11_fewestTurns) ∈ gx_G := gx_mem 33 (by decide +kernel) (by decide +kernel)
theorem mw_34 : (Cond.selects RX9 yX9_remember yX9_remember) ∈ gx_G := gx_mem 34 (by decide +kernel) (by decide +kernel)
theorem mw_35 : (Cond.selects RX9 yX9_spread yX9_spread) ∈ gx_G := gx_mem 35 (by decide +kernel) (by decide +kernel)
theorem mw_37 : (Cond.selects RX11 yX11_findFits yX11_findFits) ∈ gx_G := gx_mem 37 (by decide +kernel) (by decide +kernel)
theorem mw_89 : (Cond.initialized RX11) ∈ gx_G := gx_mem 89 (by decide +kernel) (by decide +kernel)
theorem mw_90 : (Cond.initialized RX7) ∈ gx_G := gx_mem 90 (by decide +kernel) (by decide +kernel)
theorem mw_91 : (Cond.initialized RX8) ∈ gx_G := gx_mem 91 (by decide +kernel) (by decide +kernel)
theorem mw_92 : (Cond.initialized RX10) ∈ gx_G := gx_mem 92 (by decide +kernel) (by decide +kernel)
theorem mw_93 : (Cond.initialized RX5) ∈ gx_G := gx_mem 93 (by decide +kernel) (by decide +kernel)
theorem mw_94 : (Cond.initialized RX2) ∈ gx_G := gx_mem 94 (by decide +kernel) (by decide +kernel)
theorem mw_95 : (Cond.initialized RX6) ∈ gx_G := gx_mem 95 (by decide +kernel) (by decide +kernel)
theorem mw_96 : (Cond.initialized RX3) ∈ gx_G := gx_mem 96 (by decide +kernel) (by decide +kernel)
theorem mw_98 : (Cond.initialized RX4) ∈ gx_G := gx_mem 98 (by decide +kernel) (by decide +kernel)
theorem mw_99 : (Cond.initialized RX1) ∈ gx_G := gx_mem 99 (by decide +kernel) (by decide +kernel)
theorem mw_100 : (Cond.initialized RX9) ∈ gx_G := gx_mem 100 (by decide +kernel) (by decide +kernel)
theorem mw_102 : (Cond.initialized RJ9) ∈ gx_G := gx_mem 102 (by decide +kernel) (by decide +kernel)
theorem mw_114 : (Cond.initialized RJ6) ∈ gx_G := gx_mem 114 (by decide +kernel) (by decide +kernel)
theorem mw_129 : (Cond.fieldLink RX7 11 "DownTheGutter$Signs" "signs" "[I") ∈ gx_G := gx_mem 129 (by decide +kernel) (by decide +kernel)
theorem mw_130 : (Cond.fieldLink RX7 25 "DownTheGutter$Signs" "seen" "I") ∈ gx_G := gx_mem 130 (by decide +kernel) (by decide +kernel)
theorem mw_131 : (Cond.fieldLink RX7 15 "DownTheGutter$Signs" "length" "I") ∈ gx_G := gx_mem 131 (by decide +kernel) (by decide +kernel)
theorem mw_132 : (Cond.fieldLink RX11 107 "DownTheGutter$Signs" "length" "I") ∈ gx_G := gx_mem 132 (by decide +kernel) (by decide +kernel)
theorem mw_133 : (Cond.fieldLink RX10 33 "DownTheGutter$Signs" "length" "I") ∈ gx_G := gx_mem 133 (by decide +kernel) (by decide +kernel)
theorem mw_148 : (Cond.fieldLink RX8 9 "DownTheGutter$Town" "kinds" "[I") ∈ gx_G := gx_mem 148 (by decide +kernel) (by decide +kernel)
theorem mw_149 : (Cond.fieldLink RX8 15 "DownTheGutter$Town" "nexts" "[I") ∈ gx_G := gx_mem 149 (by decide +kernel) (by decide +kernel)
theorem mw_150 : (Cond.fieldLink RX8 18 "DownTheGutter$Town" "seconds" "[I") ∈ gx_G := gx_mem 150 (by decide +kernel) (by decide +kernel)
theorem mw_151 : (Cond.fieldLink RX8 21 "DownTheGutter$Town" "figures" "[I") ∈ gx_G := gx_mem 151 (by decide +kernel) (by decide +kernel)
theorem mw_152 : (Cond.fieldLink RX8 24 "DownTheGutter$Town" "firstUse" "[I") ∈ gx_G := gx_mem 152 (by decide +kernel) (by decide +kernel)
theorem mw_153 : (Cond.fieldLink RX8 37 "DownTheGutter$Town" "kitchens" "I") ∈ gx_G := gx_mem 153 (by decide +kernel) (by decide +kernel)
theorem mw_154 : (Cond.fieldLink RX8 31 "DownTheGutter$Town" "size" "I") ∈ gx_G := gx_mem 154 (by decide +kernel) (by decide +kernel)
theorem mw_155 : (Cond.fieldLink RX11 323 "DownTheGutter$Town" "size" "I") ∈ gx_G := gx_mem 155 (by decide +kernel) (by decide +kernel)
theorem mw_156 : (Cond.fieldLink RX8 34 "DownTheGutter$Town" "forks" "I") ∈ gx_G := gx_mem 156 (by decide +kernel) (by decide +kernel)
theorem mw_157 : (Cond.fieldLink RX9 134 "DownTheGutter$Town" "forks" "I") ∈ gx_G := gx_mem 157 (by decide +kernel) (by decide +kernel)
theorem mw_158 : (Cond.fieldLink RX11 375 "DownTheGutter$Town" "forks" "I") ∈ gx_G := gx_mem 158 (by decide +kernel) (by decide +kernel)
theorem mw_159 : (Cond.fieldLink RX8 27 "DownTheGutter$Town" "sets" "I") ∈ gx_G := gx_mem 159 (by decide +kernel) (by decide +kernel)
theorem mw_160 : (Cond.fieldLink RX9 118 "DownTheGutter$Town" "sets" "I") ∈ gx_G := gx_mem 160 (by decide +kernel) (by decide +kernel)
theorem mw_161 : (Cond.fieldLink RX11 353 "DownTheGutter$Town" "sets" "I") ∈ gx_G := gx_mem 161 (by decide +kernel) (by decide +kernel)
theorem mw_188 : (Cond.fieldLink RX10 15 "DownTheGutter$Water" "length" "I") ∈ gx_G := gx_mem 188 (by decide +kernel) (by decide +kernel)
theorem mw_200 : (Cond.fieldLink RX5 9 "DownTheGutter$Rule" "steps" "[I") ∈ gx_G := gx_mem 200 (by decide +kernel) (by decide +kernel)
theorem mw_203 : (Cond.fieldLink RX5 19 "DownTheGutter$Rule" "size" "I") ∈ gx_G := gx_mem 203 (by decide +kernel) (by decide +kernel)
theorem mw_204 : (Cond.fieldLink RX5 60 "DownTheGutter$Rule" "holding" "I") ∈ gx_G := gx_mem 204 (by decide +kernel) (by decide +kernel)
theorem mw_205 : (Cond.fieldLink RX5 63 "DownTheGutter$Rule" "open" "I") ∈ gx_G := gx_mem 205 (by decide +kernel) (by decide +kernel)
theorem mw_206 : (Cond.fieldLink RX5 66 "DownTheGutter$Rule" "compared" "I") ∈ gx_G := gx_mem 206 (by decide +kernel) (by decide +kernel)
theorem mw_207 : (Cond.fieldLink RX5 69 "DownTheGutter$Rule" "digits" "I") ∈ gx_G := gx_mem 207 (by decide +kernel) (by decide +kernel)
theorem mw_208 : (Cond.fieldLink RX5 50 "DownTheGutter$Rule" "wantsThing" "Z") ∈ gx_G := gx_mem 208 (by decide +kernel) (by decide +kernel)
theorem mw_209 : (Cond.fieldLink RX5 23 "DownTheGutter$Rule" "asksPlank" "Z") ∈ gx_G := gx_mem 209 (by decide +kernel) (by decide +kernel)
theorem mw_211 : (Cond.fieldLink RX1 29 "DownTheGutter$Rule" "asksOthers" "Z") ∈ gx_G := gx_mem 211 (by decide +kernel) (by decide +kernel)
theorem mw_212 : (Cond.fieldLink RX5 27 "DownTheGutter$Rule" "asksOthers" "Z") ∈ gx_G := gx_mem 212 (by decide +kernel) (by decide +kernel)
theorem mw_246 : (Cond.fieldLink RX2 22 "DownTheGutter$Diary" "acts" "I") ∈ gx_G := gx_mem 246 (by decide +kernel) (by decide +kernel)
theorem mw_264 : (Cond.fieldLink RX6 9 "DownTheGutter$Scene" "spots" "[I") ∈ gx_G := gx_mem 264 (by decide +kernel) (by decide +kernel)
theorem mw_270 : (Cond.fieldLink RX6 30 "DownTheGutter$Scene" "things" "I") ∈ gx_G := gx_mem 270 (by decide +kernel) (by decide +kernel)
theorem mw_271 : (Cond.fieldLink RX1 60 "DownTheGutter$Scene" "things" "I") ∈ gx_G := gx_mem 271 (by decide +kernel) (by decide +kernel)
theorem mw_272 : (Cond.fieldLink RX11 208 "DownTheGutter$Scene" "things" "I") ∈ gx_G := gx_mem 272 (by decide +kernel) (by decide +kernel)
theorem mw_273 : (Cond.fieldLink RX6 34 "DownTheGutter$Scene" "planks" "I") ∈ gx_G := gx_mem 273 (by decide +kernel) (by decide +kernel)
theorem mw_274 : (Cond.fieldLink RX9 77 "DownTheGutter$Scene" "planks" "I") ∈ gx_G := gx_mem 274 (by decide +kernel) (by decide +kernel)
theorem mw_276 : (Cond.fieldLink RX11 157 "DownTheGutter$Scene" "planks" "I") ∈ gx_G := gx_mem 276 (by decide +kernel) (by decide +kernel)
theorem mw_277 : (Cond.fieldLink RX6 37 "DownTheGutter$Scene" "now" "I") ∈ gx_G := gx_mem 277 (by decide +kernel) (by decide +kernel)
theorem mw_279 : (Cond.fieldLink RX1 52 "DownTheGutter$Scene" "now" "I") ∈ gx_G := gx_mem 279 (by decide +kernel) (by decide +kernel)
theorem mw_280 : (Cond.fieldLink RX11 324 "DownTheGutter$Scene" "now" "I") ∈ gx_G := gx_mem 280 (by decide +kernel) (by decide +kernel)
theorem mw_281 : (Cond.fieldLink RX6 40 "DownTheGutter$Scene" "home" "I") ∈ gx_G := gx_mem 281 (by decide +kernel) (by decide +kernel)
theorem mw_282 : (Cond.fieldLink RX9 92 "DownTheGutter$Scene" "home" "I") ∈ gx_G := gx_mem 282 (by decide +kernel) (by decide +kernel)
theorem mw_283 : (Cond.fieldLink RX11 247 "DownTheGutter$Scene" "home" "I") ∈ gx_G := gx_mem 283 (by decide +kernel) (by decide +kernel)
theorem mw_284 : (Cond.fieldLink RX6 43 "DownTheGutter$Scene" "lost" "I") ∈ gx_G := gx_mem 284 (by decide +kernel) (by decide +kernel)
theorem mw_285 : (Cond.fieldLink RX9 89 "DownTheGutter$Scene" "lost" "I") ∈ gx_G := gx_mem 285 (by decide +kernel) (by decide +kernel)
theorem mw_286 : (Cond.fieldLink RX11 250 "DownTheGutter$Scene" "lost" "I") ∈ gx_G := gx_mem 286 (by decide +kernel) (by decide +kernel)
theorem mw_319 : (Cond.fieldLink RX3 11 "DownTheGutter$Past" "scenes" "[LDownTheGutter$Scene;") ∈ gx_G := gx_mem 319 (by decide +kernel) (by decide +kernel)
theorem mw_320 : (Cond.fieldLink RX3 20 "DownTheGutter$Past" "top" "I") ∈ gx_G := gx_mem 320 (by decide +kernel) (by decide +kernel)
theorem mw_321 : (Cond.fieldLink RX3 16 "DownTheGutter$Past" "size" "I") ∈ gx_G := gx_mem 321 (by decide +kernel) (by decide +kernel)
theorem mw_322 : (Cond.fieldLink RX11 287 "DownTheGutter$Past" "size" "I") ∈ gx_G := gx_mem 322 (by decide +kernel) (by decide +kernel)
theorem mw_340 : (Cond.fieldLink RX11 126 "DownTheGutter$Corks" "told" "I") ∈ gx_G := gx_mem 340 (by decide +kernel) (by decide +kernel)
theorem mw_356 : (Cond.fieldLink RX4 9 "DownTheGutter$Row" "numbers" "[J") ∈ gx_G := gx_mem 356 (by decide +kernel) (by decide +kernel)
theorem mw_357 : (Cond.fieldLink RX4 13 "DownTheGutter$Row" "size" "I") ∈ gx_G := gx_mem 357 (by decide +kernel) (by decide +kernel)
theorem mw_358 : (Cond.fieldLink RX11 423 "DownTheGutter$Row" "size" "I") ∈ gx_G := gx_mem 358 (by decide +kernel) (by decide +kernel)
theorem mw_372 : (Cond.fieldLink RX1 21 "DownTheGutter$Current" "water" "LDownTheGutter$Water;") ∈ gx_G := gx_mem 372 (by decide +kernel) (by decide +kernel)
theorem mw_373 : (Cond.fieldLink RX1 25 "DownTheGutter$Current" "rule" "LDownTheGutter$Rule;") ∈ gx_G := gx_mem 373 (by decide +kernel) (by decide +kernel)
theorem mw_375 : (Cond.fieldLink RX9 80 "DownTheGutter$Current" "asked" "I") ∈ gx_G := gx_mem 375 (by decide +kernel) (by decide +kernel)
theorem mw_377 : (Cond.fieldLink RX9 83 "DownTheGutter$Current" "stuck" "I") ∈ gx_G := gx_mem 377 (by decide +kernel) (by decide +kernel)
theorem mw_383 : (Cond.fieldLink RX1 39 "DownTheGutter$Current" "rain" "I") ∈ gx_G := gx_mem 383 (by decide +kernel) (by decide +kernel)
theorem mw_416 : (Cond.fieldLink RX9 32 "DownTheGutter$Trials" "town" "LDownTheGutter$Town;") ∈ gx_G := gx_mem 416 (by decide +kernel) (by decide +kernel)
theorem mw_417 : (Cond.fieldLink RX9 36 "DownTheGutter$Trials" "current" "LDownTheGutter$Current;") ∈ gx_G := gx_mem 417 (by decide +kernel) (by decide +kernel)
theorem mw_418 : (Cond.fieldLink RX9 9 "DownTheGutter$Trials" "tells" "[I") ∈ gx_G := gx_mem 418 (by decide +kernel) (by decide +kernel)
theorem mw_419 : (Cond.fieldLink RX9 15 "DownTheGutter$Trials" "fitting" "[Z") ∈ gx_G := gx_mem 419 (by decide +kernel) (by decide +kernel)
theorem mw_421 : (Cond.fieldLink RX9 57 "DownTheGutter$Trials" "those" "I") ∈ gx_G := gx_mem 421 (by decide +kernel) (by decide +kernel)
theorem mw_422 : (Cond.fieldLink RX9 60 "DownTheGutter$Trials" "lead" "I") ∈ gx_G := gx_mem 422 (by decide +kernel) (by decide +kernel)
theorem mw_423 : (Cond.fieldLink RX9 25 "DownTheGutter$Trials" "start" "LDownTheGutter$Scene;") ∈ gx_G := gx_mem 423 (by decide +kernel) (by decide +kernel)
theorem mw_425 : (Cond.fieldLink RX9 29 "DownTheGutter$Trials" "scene" "LDownTheGutter$Scene;") ∈ gx_G := gx_mem 425 (by decide +kernel) (by decide +kernel)
theorem mw_426 : (Cond.fieldLink RX11 297 "DownTheGutter$Trials" "scene" "LDownTheGutter$Scene;") ∈ gx_G := gx_mem 426 (by decide +kernel) (by decide +kernel)
theorem mw_447 : (Cond.fieldLink RX11 12 "DownTheGutter" "text" "LDownTheGutter$Signs;") ∈ gx_G := gx_mem 447 (by decide +kernel) (by decide +kernel)
theorem mw_448 : (Cond.fieldLink RX11 19 "DownTheGutter" "town" "LDownTheGutter$Town;") ∈ gx_G := gx_mem 448 (by decide +kernel) (by decide +kernel)
theorem mw_449 : (Cond.fieldLink RX11 23 "DownTheGutter" "draftTown" "LDownTheGutter$Town;") ∈ gx_G := gx_mem 449 (by decide +kernel) (by decide +kernel)
theorem mw_450 : (Cond.fieldLink RX11 29 "DownTheGutter" "water" "LDownTheGutter$Water;") ∈ gx_G := gx_mem 450 (by decide +kernel) (by decide +kernel)
theorem mw_451 : (Cond.fieldLink RX11 36 "DownTheGutter" "rule" "LDownTheGutter$Rule;") ∈ gx_G := gx_mem 451 (by decide +kernel) (by decide +kernel)
theorem mw_452 : (Cond.fieldLink RX11 40 "DownTheGutter" "draftRule" "LDownTheGutter$Rule;") ∈ gx_G := gx_mem 452 (by decide +kernel) (by decide +kernel)
theorem mw_453 : (Cond.fieldLink RX11 46 "DownTheGutter" "diary" "LDownTheGutter$Diary;") ∈ gx_G := gx_mem 453 (by decide +kernel) (by decide +kernel)
theorem mw_454 : (Cond.fieldLink RX11 53 "DownTheGutter" "present" "LDownTheGutter$Scene;") ∈ gx_G := gx_mem 454 (by decide +kernel) (by decide +kernel)
theorem mw_455 : (Cond.fieldLink RX11 57 "DownTheGutter" "before" "LDownTheGutter$Scene;") ∈ gx_G := gx_mem 455 (by decide +kernel) (by decide +kernel)
theorem mw_456 : (Cond.fieldLink RX11 63 "DownTheGutter" "past" "LDownTheGutter$Past;") ∈ gx_G := gx_mem 456 (by decide +kernel) (by decide +kernel)
theorem mw_457 : (Cond.fieldLink RX11 67 "DownTheGutter" "kept" "[LDownTheGutter$Scene;") ∈ gx_G := gx_mem 457 (by decide +kernel) (by decide +kernel)
theorem mw_458 : (Cond.fieldLink RX11 129 "DownTheGutter" "keptBits" "I") ∈ gx_G := gx_mem 458 (by decide +kernel) (by decide +kernel)
theorem mw_459 : (Cond.fieldLink RX11 74 "DownTheGutter" "corks" "LDownTheGutter$Corks;") ∈ gx_G := gx_mem 459 (by decide +kernel) (by decide +kernel)
theorem mw_460 : (Cond.fieldLink RX11 81 "DownTheGutter" "row" "LDownTheGutter$Row;") ∈ gx_G := gx_mem 460 (by decide +kernel) (by decide +kernel)
theorem mw_461 : (Cond.fieldLink RX11 90 "DownTheGutter" "current" "LDownTheGutter$Current;") ∈ gx_G := gx_mem 461 (by decide +kernel) (by decide +kernel)
theorem mw_462 : (Cond.fieldLink RX11 99 "DownTheGutter" "trials" "LDownTheGutter$Trials;") ∈ gx_G := gx_mem 462 (by decide +kernel) (by decide +kernel)
theorem mw_500 : (Cond.methodLink RX11 103 yX7_addFour) ∈ gx_G := gx_mem 500 (by decide +kernel) (by decide +kernel)
theorem mw_501 : (Cond.instanceMethod yX7_addFour) ∈ gx_G := gx_mem 501 (by decide +kernel) (by decide +kernel)
theorem mw_502 : (Cond.selects RX7 yX7_addFour yX7_addFour) ∈ gx_G := gx_mem 502 (by decide +kernel) (by decide +kernel)
theorem mw_503 : (Cond.code yX7_addFour cX7_addFour 2 (some .boolean)) ∈ gx_G := gx_mem 503 (by decide +kernel) (by decide +kernel)
theorem mw_508 : (Cond.methodLink RX11 111 yX7_cut) ∈ gx_G := gx_mem 508 (by decide +kernel) (by decide +kernel)
theorem mw_509 : (Cond.instanceMethod yX7_cut) ∈ gx_G := gx_mem 509 (by decide +kernel) (by decide +kernel)
theorem mw_510 : (Cond.selects RX7 yX7_cut yX7_cut) ∈ gx_G := gx_mem 510 (by decide +kernel) (by decide +kernel)
theorem mw_511 : (Cond.code yX7_cut cX7_cut 2 (some .boolean)) ∈ gx_G := gx_mem 511 (by decide +kernel) (by decide +kernel)
theorem mw_516 : (Cond.methodLink RX11 114 yX8_read) ∈ gx_G := gx_mem 516 (by decide +kernel) (by decide +kernel)
theorem mw_517 : (Cond.instanceMethod yX8_read) ∈ gx_G := gx_mem 517 (by decide +kernel) (by decide +kernel)
theorem mw_518 : (Cond.selects RX8 yX8_read yX8_read) ∈ gx_G := gx_mem 518 (by decide +kernel) (by decide +kernel)
theorem mw_519 : (Cond.code yX8_read cX8_read 5 (some .int)) ∈ gx_G := gx_mem 519 (by decide +kernel) (by decide +kernel)
theorem mw_520 : (Cond.methodLink RX8 40 yX8_clear) ∈ gx_G := gx_mem 520 (by decide +kernel) (by decide +kernel)
theorem mw_522 : (Cond.instanceMethod yX8_clear) ∈ gx_G := gx_mem 522 (by decide +kernel) (by decide +kernel)
theorem mw_523 : (Cond.code yX8_clear cX8_clear 2 none) ∈ gx_G := gx_mem 523 (by decide +kernel) (by decide +kernel)
theorem mw_524 : (Cond.methodLink RX8 43 yX7_showAtMost) ∈ gx_G := gx_mem 524 (by decide +kernel) (by decide +kernel)
theorem mw_525 : (Cond.instanceMethod yX7_showAtMost) ∈ gx_G := gx_mem 525 (by decide +kernel) (by decide +kernel)
theorem mw_526 : (Cond.selects RX7 yX7_showAtMost yX7_showAtMost) ∈ gx_G := gx_mem 526 (by decide +kernel) (by decide +kernel)
theorem mw_527 : (Cond.code yX7_showAtMost cX7_showAtMost 2 none) ∈ gx_G := gx_mem 527 (by decide +kernel) (by decide +kernel)
theorem mw_528 : (Cond.methodLink RX7 19 Lib.Math.min.name) ∈ gx_G := gx_mem 528 (by decide +kernel) (by decide +kernel)
theorem mw_529 : (Cond.static Lib.Math.min.name) ∈ gx_G := gx_mem 529 (by decide +kernel) (by decide +kernel)
theorem mw_530 : (Cond.code Lib.Math.min.name Lib.Math.min.code 2 (some .int)) ∈ gx_G := gx_mem 530 (by decide +kernel) (by decide +kernel)
theorem mw_531 : (Cond.methodLink RX8 49 yX7_isOver) ∈ gx_G := gx_mem 531 (by decide +kernel) (by decide +kernel)
theorem mw_532 : (Cond.instanceMethod yX7_isOver) ∈ gx_G := gx_mem 532 (by decide +kernel) (by decide +kernel)
theorem mw_533 : (Cond.selects RX7 yX7_isOver yX7_isOver) ∈ gx_G := gx_mem 533 (by decide +kernel) (by decide +kernel)
theorem mw_534 : (Cond.code yX7_isOver cX7_isOver 2 (some .boolean)) ∈ gx_G := gx_mem 534 (by decide +kernel) (by decide +kernel)
theorem mw_577 : (Cond.static Lib.Math.max.name) ∈ gx_G := gx_mem 577 (by decide +kernel) (by decide +kernel)
theorem mw_578 : (Cond.code Lib.Math.max.name Lib.Math.max.code 2 (some .int)) ∈ gx_G := gx_mem 578 (by decide +kernel) (by decide +kernel)
theorem mw_668 : (Cond.methodLink RX11 118 yX8_copy) ∈ gx_G := gx_mem 668 (by decide +kernel) (by decide +kernel)
theorem mw_669 : (Cond.instanceMethod yX8_copy) ∈ gx_G := gx_mem 669 (by decide +kernel) (by decide +kernel)
theorem mw_670 : (Cond.selects RX8 yX8_copy yX8_copy) ∈ gx_G := gx_mem 670 (by decide +kernel) (by decide +kernel)
theorem mw_671 : (Cond.code yX8_copy cX8_copy 3 none) ∈ gx_G := gx_mem 671 (by decide +kernel) (by decide +kernel)
theorem mw_672 : (Cond.methodLink RX11 122 yX6_clear) ∈ gx_G := gx_mem 672 (by decide +kernel) (by decide +kernel)
theorem mw_673 : (Cond.instanceMethod yX6_clear) ∈ gx_G := gx_mem 673 (by decide +kernel) (by decide +kernel)
theorem mw_674 : (Cond.selects RX6 yX6_clear yX6_clear) ∈ gx_G := gx_mem 674 (by decide +kernel) (by decide +kernel)
theorem mw_675 : (Cond.code yX6_clear cX6_clear 1 none) ∈ gx_G := gx_mem 675 (by decide +kernel) (by decide +kernel)
theorem mw_676 : (Cond.methodLink RX11 125 yX3_clear) ∈ gx_G := gx_mem 676 (by decide +kernel) (by decide +kernel)
theorem mw_677 : (Cond.instanceMethod yX3_clear) ∈ gx_G := gx_mem 677 (by decide +kernel) (by decide +kernel)
theorem mw_678 : (Cond.selects RX3 yX3_clear yX3_clear) ∈ gx_G := gx_mem 678 (by decide +kernel) (by decide +kernel)
theorem mw_679 : (Cond.code yX3_clear cX3_clear 1 none) ∈ gx_G := gx_mem 679 (by decide +kernel) (by decide +kernel)
theorem mw_685 : (Cond.methodLink RX11 132 yX10_read) ∈ gx_G := gx_mem 685 (by decide +kernel) (by decide +kernel)
theorem mw_686 : (Cond.instanceMethod yX10_read) ∈ gx_G := gx_mem 686 (by decide +kernel) (by decide +kernel)
theorem mw_687 : (Cond.selects RX10 yX10_read yX10_read) ∈ gx_G := gx_mem 687 (by decide +kernel) (by decide +kernel)
theorem mw_688 : (Cond.code yX10_read cX10_read 4 (some .int)) ∈ gx_G := gx_mem 688 (by decide +kernel) (by decide +kernel)
theorem mw_689 : (Cond.methodLink RX10 19 yX7_showAtMost) ∈ gx_G := gx_mem 689 (by decide +kernel) (by decide +kernel)
theorem mw_690 : (Cond.methodLink RX10 25 yX7_isOver) ∈ gx_G := gx_mem 690 (by decide +kernel) (by decide +kernel)
theorem mw_692 : (Cond.methodLink RX10 34 Lib.Math.min.name) ∈ gx_G := gx_mem 692 (by decide +kernel) (by decide +kernel)
theorem mw_697 : (Cond.methodLink RX11 133 yX5_read) ∈ gx_G := gx_mem 697 (by decide +kernel) (by decide +kernel)
theorem mw_698 : (Cond.instanceMethod yX5_read) ∈ gx_G := gx_mem 698 (by decide +kernel) (by decide +kernel)
theorem mw_699 : (Cond.selects RX5 yX5_read yX5_read) ∈ gx_G := gx_mem 699 (by decide +kernel) (by decide +kernel)
theorem mw_700 : (Cond.code yX5_read cX5_read 4 (some .int)) ∈ gx_G := gx_mem 700 (by decide +kernel) (by decide +kernel)
theorem mw_701 : (Cond.methodLink RX5 30 yX5_clear) ∈ gx_G := gx_mem 701 (by decide +kernel) (by decide +kernel)
theorem mw_703 : (Cond.instanceMethod yX5_clear) ∈ gx_G := gx_mem 703 (by decide +kernel) (by decide +kernel)
theorem mw_704 : (Cond.code yX5_clear cX5_clear 1 none) ∈ gx_G := gx_mem 704 (by decide +kernel) (by decide +kernel)
theorem mw_705 : (Cond.methodLink RX5 33 yX7_showAtMost) ∈ gx_G := gx_mem 705 (by decide +kernel) (by decide +kernel)
theorem mw_706 : (Cond.methodLink RX5 39 yX7_isOver) ∈ gx_G := gx_mem 706 (by decide +kernel) (by decide +kernel)
theorem mw_707 : (Cond.methodLink RX5 43 yX5_addFact) ∈ gx_G := gx_mem 707 (by decide +kernel) (by decide +kernel)
theorem mw_709 : (Cond.instanceMethod yX5_addFact) ∈ gx_G := gx_mem 709 (by decide +kernel) (by decide +kernel)
theorem mw_710 : (Cond.code yX5_addFact cX5_addFact 2 none) ∈ gx_G := gx_mem 710 (by decide +kernel) (by decide +kernel)
theorem mw_711 : (Cond.methodLink RX5 84 yX5_addStep) ∈ gx_G := gx_mem 711 (by decide +kernel) (by decide +kernel)
theorem mw_713 : (Cond.instanceMethod yX5_addStep) ∈ gx_G := gx_mem 713 (by decide +kernel) (by decide +kernel)
theorem mw_714 : (Cond.code yX5_addStep cX5_addStep 2 none) ∈ gx_G := gx_mem 714 (by decide +kernel) (by decide +kernel)
theorem mw_752 : (Cond.methodLink RX11 134 yX5_copy) ∈ gx_G := gx_mem 752 (by decide +kernel) (by decide +kernel)
theorem mw_753 : (Cond.instanceMethod yX5_copy) ∈ gx_G := gx_mem 753 (by decide +kernel) (by decide +kernel)
theorem mw_754 : (Cond.selects RX5 yX5_copy yX5_copy) ∈ gx_G := gx_mem 754 (by decide +kernel) (by decide +kernel)
theorem mw_755 : (Cond.code yX5_copy cX5_copy 3 none) ∈ gx_G := gx_mem 755 (by decide +kernel) (by decide +kernel)
theorem mw_760 : (Cond.methodLink RX11 198 yX10_in) ∈ gx_G := gx_mem 760 (by decide +kernel) (by decide +kernel)
theorem mw_761 : (Cond.instanceMethod yX10_in) ∈ gx_G := gx_mem 761 (by decide +kernel) (by decide +kernel)
theorem mw_762 : (Cond.selects RX10 yX10_in yX10_in) ∈ gx_G := gx_mem 762 (by decide +kernel) (by decide +kernel)
theorem mw_763 : (Cond.code yX10_in cX10_in 2 (some .int)) ∈ gx_G := gx_mem 763 (by decide +kernel) (by decide +kernel)
theorem mw_768 : (Cond.methodLink RX11 201 yX8_isFork) ∈ gx_G := gx_mem 768 (by decide +kernel) (by decide +kernel)
theorem mw_769 : (Cond.instanceMethod yX8_isFork) ∈ gx_G := gx_mem 769 (by decide +kernel) (by decide +kernel)
theorem mw_770 : (Cond.selects RX8 yX8_isFork yX8_isFork) ∈ gx_G := gx_mem 770 (by decide +kernel) (by decide +kernel)
theorem mw_771 : (Cond.code yX8_isFork cX8_isFork 2 (some .boolean)) ∈ gx_G := gx_mem 771 (by decide +kernel) (by decide +kernel)
theorem mw_772 : (Cond.methodLink RX11 204 yX3_push) ∈ gx_G := gx_mem 772 (by decide +kernel) (by decide +kernel)
theorem mw_773 : (Cond.instanceMethod yX3_push) ∈ gx_G := gx_mem 773 (by decide +kernel) (by decide +kernel)
theorem mw_774 : (Cond.selects RX3 yX3_push yX3_push) ∈ gx_G := gx_mem 774 (by decide +kernel) (by decide +kernel)
theorem mw_775 : (Cond.code yX3_push cX3_push 2 none) ∈ gx_G := gx_mem 775 (by decide +kernel) (by decide +kernel)
theorem mw_776 : (Cond.methodLink RX3 23 yX6_copy) ∈ gx_G := gx_mem 776 (by decide +kernel) (by decide +kernel)
theorem mw_777 : (Cond.instanceMethod yX6_copy) ∈ gx_G := gx_mem 777 (by decide +kernel) (by decide +kernel)
theorem mw_778 : (Cond.selects RX6 yX6_copy yX6_copy) ∈ gx_G := gx_mem 778 (by decide +kernel) (by decide +kernel)
theorem mw_779 : (Cond.code yX6_copy cX6_copy 3 none) ∈ gx_G := gx_mem 779 (by decide +kernel) (by decide +kernel)
theorem mw_780 : (Cond.methodLink RX3 27 Lib.Math.min.name) ∈ gx_G := gx_mem 780 (by decide +kernel) (by decide +kernel)
theorem mw_798 : (Cond.methodLink RX11 137 yX8_has) ∈ gx_G := gx_mem 798 (by decide +kernel) (by decide +kernel)
theorem mw_799 : (Cond.instanceMethod yX8_has) ∈ gx_G := gx_mem 799 (by decide +kernel) (by decide +kernel)
theorem mw_800 : (Cond.selects RX8 yX8_has yX8_has) ∈ gx_G := gx_mem 800 (by decide +kernel) (by decide +kernel)
theorem mw_801 : (Cond.code yX8_has cX8_has 2 (some .boolean)) ∈ gx_G := gx_mem 801 (by decide +kernel) (by decide +kernel)
theorem mw_802 : (Cond.methodLink RX11 227 yX11_isLoad) ∈ gx_G := gx_mem 802 (by decide +kernel) (by decide +kernel)
theorem mw_803 : (Cond.static yX11_isLoad) ∈ gx_G := gx_mem 803 (by decide +kernel) (by decide +kernel)
theorem mw_804 : (Cond.code yX11_isLoad cX11_isLoad 2 (some .boolean)) ∈ gx_G := gx_mem 804 (by decide +kernel) (by decide +kernel)
theorem mw_808 : (Cond.methodLink RX11 234 yX8_isKitchen) ∈ gx_G := gx_mem 808 (by decide +kernel) (by decide +kernel)
theorem mw_809 : (Cond.instanceMethod yX8_isKitchen) ∈ gx_G := gx_mem 809 (by decide +kernel) (by decide +kernel)
theorem mw_810 : (Cond.selects RX8 yX8_isKitchen yX8_isKitchen) ∈ gx_G := gx_mem 810 (by decide +kernel) (by decide +kernel)
theorem mw_811 : (Cond.code yX8_isKitchen cX8_isKitchen 2 (some .boolean)) ∈ gx_G := gx_mem 811 (by decide +kernel) (by decide +kernel)
theorem mw_824 : (Cond.methodLink RX11 241 yX6_isOnWay) ∈ gx_G := gx_mem 824 (by decide +kernel) (by decide +kernel)
theorem mw_825 : (Cond.instanceMethod yX6_isOnWay) ∈ gx_G := gx_mem 825 (by decide +kernel) (by decide +kernel)
theorem mw_826 : (Cond.selects RX6 yX6_isOnWay yX6_isOnWay) ∈ gx_G := gx_mem 826 (by decide +kernel) (by decide +kernel)
theorem mw_827 : (Cond.code yX6_isOnWay cX6_isOnWay 2 (some .boolean)) ∈ gx_G := gx_mem 827 (by decide +kernel) (by decide +kernel)
theorem mw_837 : (Cond.methodLink RX11 253 yX11_passMinutes) ∈ gx_G := gx_mem 837 (by decide +kernel) (by decide +kernel)
theorem mw_839 : (Cond.instanceMethod yX11_passMinutes) ∈ gx_G := gx_mem 839 (by decide +kernel) (by decide +kernel)
theorem mw_840 : (Cond.code yX11_passMinutes cX11_passMinutes 3 none) ∈ gx_G := gx_mem 840 (by decide +kernel) (by decide +kernel)
theorem mw_841 : (Cond.methodLink RX11 266 yX1_pass) ∈ gx_G := gx_mem 841 (by decide +kernel) (by decide +kernel)
theorem mw_842 : (Cond.instanceMethod yX1_pass) ∈ gx_G := gx_mem 842 (by decide +kernel) (by decide +kernel)
theorem mw_843 : (Cond.selects RX1 yX1_pass yX1_pass) ∈ gx_G := gx_mem 843 (by decide +kernel) (by decide +kernel)
theorem mw_844 : (Cond.code yX1_pass cX1_pass 6 none) ∈ gx_G := gx_mem 844 (by decide +kernel) (by decide +kernel)
theorem mw_845 : (Cond.methodLink RX1 57 yX1_flowIn) ∈ gx_G := gx_mem 845 (by decide +kernel) (by decide +kernel)
theorem mw_847 : (Cond.instanceMethod yX1_flowIn) ∈ gx_G := gx_mem 847 (by decide +kernel) (by decide +kernel)
theorem mw_848 : (Cond.code yX1_flowIn cX1_flowIn 5 (some .int)) ∈ gx_G := gx_mem 848 (by decide +kernel) (by decide +kernel)
theorem mw_849 : (Cond.methodLink RX1 33 yX10_in) ∈ gx_G := gx_mem 849 (by decide +kernel) (by decide +kernel)
theorem mw_860 : (Cond.instanceMethod yX6_spotOf) ∈ gx_G := gx_mem 860 (by decide +kernel) (by decide +kernel)
theorem mw_861 : (Cond.selects RX6 yX6_spotOf yX6_spotOf) ∈ gx_G := gx_mem 861 (by decide +kernel) (by decide +kernel)
theorem mw_862 : (Cond.code yX6_spotOf cX6_spotOf 2 (some .int)) ∈ gx_G := gx_mem 862 (by decide +kernel) (by decide +kernel)
theorem mw_896 : (Cond.static yJ6_bitCount_0f7a4) ∈ gx_G := gx_mem 896 (by decide +kernel) (by decide +kernel)
theorem mw_897 : (Cond.code yJ6_bitCount_0f7a4 cJ6_bitCount_0f7a4 1 (some .int)) ∈ gx_G := gx_mem 897 (by decide +kernel) (by decide +kernel)
theorem mw_898 : (Cond.constant RJ6 265 (1431655765)) ∈ gx_G := gx_mem 898 (by decide +kernel) (by decide +kernel)
theorem mw_899 : (Cond.constant RJ6 266 (858993459)) ∈ gx_G := gx_mem 899 (by decide +kernel) (by decide +kernel)
theorem mw_900 : (Cond.constant RJ6 267 (252645135)) ∈ gx_G := gx_mem 900 (by decide +kernel) (by decide +kernel)
theorem mw_929 : (Cond.methodLink RX11 257 yX4_tell_) ∈ gx_G := gx_mem 929 (by decide +kernel) (by decide +kernel)
theorem mw_930 : (Cond.instanceMethod yX4_tell_) ∈ gx_G := gx_mem 930 (by decide +kernel) (by decide +kernel)
theorem mw_931 : (Cond.selects RX4 yX4_tell_ yX4_tell_) ∈ gx_G := gx_mem 931 (by decide +kernel) (by decide +kernel)
theorem mw_932 : (Cond.code yX4_tell_ cX4_tell_ 5 none) ∈ gx_G := gx_mem 932 (by decide +kernel) (by decide +kernel)
theorem mw_933 : (Cond.methodLink RX11 261 yJ6_bitCount_0f7a4) ∈ gx_G := gx_mem 933 (by decide +kernel) (by decide +kernel)
theorem mw_938 : (Cond.methodLink RX11 269 yX2_read) ∈ gx_G := gx_mem 938 (by decide +kernel) (by decide +kernel)
theorem mw_939 : (Cond.instanceMethod yX2_read) ∈ gx_G := gx_mem 939 (by decide +kernel) (by decide +kernel)
theorem mw_940 : (Cond.selects RX2 yX2_read yX2_read) ∈ gx_G := gx_mem 940 (by decide +kernel) (by decide +kernel)
theorem mw_941 : (Cond.code yX2_read cX2_read 5 (some .int)) ∈ gx_G := gx_mem 941 (by decide +kernel) (by decide +kernel)
theorem mw_942 : (Cond.methodLink RX2 30 yX7_showAtMost) ∈ gx_G := gx_mem 942 (by decide +kernel) (by decide +kernel)
theorem mw_943 : (Cond.methodLink RX2 36 yX7_isOver) ∈ gx_G := gx_mem 943 (by decide +kernel) (by decide +kernel)
theorem mw_979 : (Cond.methodLink RX11 270 yX6_copy) ∈ gx_G := gx_mem 979 (by decide +kernel) (by decide +kernel)
theorem mw_1008 : (Cond.methodLink RX11 283 yX3_pop) ∈ gx_G := gx_mem 1008 (by decide +kernel) (by decide +kernel)
theorem mw_1009 : (Cond.instanceMethod yX3_pop) ∈ gx_G := gx_mem 1009 (by decide +kernel) (by decide +kernel)
theorem mw_1010 : (Cond.selects RX3 yX3_pop yX3_pop) ∈ gx_G := gx_mem 1010 (by decide +kernel) (by decide +kernel)
theorem mw_1011 : (Cond.code yX3_pop cX3_pop 3 (some .boolean)) ∈ gx_G := gx_mem 1011 (by decide +kernel) (by decide +kernel)
theorem mw_1016 : (Cond.methodLink RX11 172 yX6_has) ∈ gx_G := gx_mem 1016 (by decide +kernel) (by decide +kernel)
theorem mw_1017 : (Cond.instanceMethod yX6_has) ∈ gx_G := gx_mem 1017 (by decide +kernel) (by decide +kernel)
theorem mw_1018 : (Cond.selects RX6 yX6_has yX6_has) ∈ gx_G := gx_mem 1018 (by decide +kernel) (by decide +kernel)
theorem mw_1019 : (Cond.code yX6_has cX6_has 2 (some .boolean)) ∈ gx_G := gx_mem 1019 (by decide +kernel) (by decide +kernel)
theorem mw_1020 : (Cond.methodLink RX11 290 yX11_isAhead) ∈ gx_G := gx_mem 1020 (by decide +kernel) (by decide +kernel)
theorem mw_1021 : (Cond.static yX11_isAhead) ∈ gx_G := gx_mem 1021 (by decide +kernel) (by decide +kernel)
theorem mw_1022 : (Cond.code yX11_isAhead cX11_isAhead 1 (some .boolean)) ∈ gx_G := gx_mem 1022 (by decide +kernel) (by decide +kernel)
theorem mw_1023 : (Cond.methodLink RX11 293 yX9_goOn) ∈ gx_G := gx_mem 1023 (by decide +kernel) (by decide +kernel)
theorem mw_1024 : (Cond.instanceMethod yX9_goOn) ∈ gx_G := gx_mem 1024 (by decide +kernel) (by decide +kernel)
theorem mw_1025 : (Cond.selects RX9 yX9_goOn yX9_goOn) ∈ gx_G := gx_mem 1025 (by decide +kernel) (by decide +kernel)
theorem mw_1026 : (Cond.code yX9_goOn cX9_goOn 4 none) ∈ gx_G := gx_mem 1026 (by decide +kernel) (by decide +kernel)
theorem mw_1027 : (Cond.methodLink RX9 63 yX6_copy) ∈ gx_G := gx_mem 1027 (by decide +kernel) (by decide +kernel)
theorem mw_1028 : (Cond.methodLink RX9 108 yX6_onWay) ∈ gx_G := gx_mem 1028 (by decide +kernel) (by decide +kernel)
theorem mw_1029 : (Cond.instanceMethod yX6_onWay) ∈ gx_G := gx_mem 1029 (by decide +kernel) (by decide +kernel)
theorem mw_1030 : (Cond.selects RX6 yX6_onWay yX6_onWay) ∈ gx_G := gx_mem 1030 (by decide +kernel) (by decide +kernel)
theorem mw_1031 : (Cond.code yX6_onWay cX6_onWay 1 (some .int)) ∈ gx_G := gx_mem 1031 (by decide +kernel) (by decide +kernel)
theorem mw_1039 : (Cond.methodLink RX11 300 yX4_tell__) ∈ gx_G := gx_mem 1039 (by decide +kernel) (by decide +kernel)
theorem mw_1040 : (Cond.instanceMethod yX4_tell__) ∈ gx_G := gx_mem 1040 (by decide +kernel) (by decide +kernel)
theorem mw_1041 : (Cond.selects RX4 yX4_tell__ yX4_tell__) ∈ gx_G := gx_mem 1041 (by decide +kernel) (by decide +kernel)
theorem mw_1042 : (Cond.code yX4_tell__ cX4_tell__ 7 none) ∈ gx_G := gx_mem 1042 (by decide +kernel) (by decide +kernel)
theorem mw_1057 : (Cond.methodLink RX11 307 yX4_tell) ∈ gx_G := gx_mem 1057 (by decide +kernel) (by decide +kernel)
theorem mw_1058 : (Cond.instanceMethod yX4_tell) ∈ gx_G := gx_mem 1058 (by decide +kernel) (by decide +kernel)
theorem mw_1059 : (Cond.selects RX4 yX4_tell yX4_tell) ∈ gx_G := gx_mem 1059 (by decide +kernel) (by decide +kernel)
theorem mw_1060 : (Cond.code yX4_tell cX4_tell 3 none) ∈ gx_G := gx_mem 1060 (by decide +kernel) (by decide +kernel)
theorem mw_1065 : (Cond.methodLink RX11 166 yX6_onWay) ∈ gx_G := gx_mem 1065 (by decide +kernel) (by decide +kernel)
theorem mw_1089 : (Cond.instanceMethod yX9_go) ∈ gx_G := gx_mem 1089 (by decide +kernel) (by decide +kernel)
theorem mw_1090 : (Cond.selects RX9 yX9_go yX9_go) ∈ gx_G := gx_mem 1090 (by decide +kernel) (by decide +kernel)
theorem mw_1091 : (Cond.code yX9_go cX9_go 3 (some .int)) ∈ gx_G := gx_mem 1091 (by decide +kernel) (by decide +kernel)
theorem mw_1092 : (Cond.methodLink RX9 86 yX9_begin) ∈ gx_G := gx_mem 1092 (by decide +kernel) (by decide +kernel)
theorem mw_1093 : (Cond.instanceMethod yX9_begin) ∈ gx_G := gx_mem 1093 (by decide +kernel) (by decide +kernel)
theorem mw_1094 : (Cond.selects RX9 yX9_begin yX9_begin) ∈ gx_G := gx_mem 1094 (by decide +kernel) (by decide +kernel)
theorem mw_1095 : (Cond.code yX9_begin cX9_begin 2 none) ∈ gx_G := gx_mem 1095 (by decide +kernel) (by decide +kernel)
theorem mw_1096 : (Cond.methodLink RX9 95 yX6_spotOf) ∈ gx_G := gx_mem 1096 (by decide +kernel) (by decide +kernel)
theorem mw_1097 : (Cond.methodLink RX9 99 Lib.Math.max.name) ∈ gx_G := gx_mem 1097 (by decide +kernel) (by decide +kernel)
theorem mw_1101 : (Cond.methodLink RX11 320 yX11_minutesOf) ∈ gx_G := gx_mem 1101 (by decide +kernel) (by decide +kernel)
theorem mw_1102 : (Cond.static yX11_minutesOf) ∈ gx_G := gx_mem 1102 (by decide +kernel) (by decide +kernel)
theorem mw_1103 : (Cond.code yX11_minutesOf cX11_minutesOf 1 (some .int)) ∈ gx_G := gx_mem 1103 (by decide +kernel) (by decide +kernel)
theorem mw_1138 : (Cond.methodLink RX11 343 yX9_startFrom) ∈ gx_G := gx_mem 1138 (by decide +kernel) (by decide +kernel)
theorem mw_1139 : (Cond.instanceMethod yX9_startFrom) ∈ gx_G := gx_mem 1139 (by decide +kernel) (by decide +kernel)
theorem mw_1140 : (Cond.selects RX9 yX9_startFrom yX9_startFrom) ∈ gx_G := gx_mem 1140 (by decide +kernel) (by decide +kernel)
theorem mw_1141 : (Cond.code yX9_startFrom cX9_startFrom 4 none) ∈ gx_G := gx_mem 1141 (by decide +kernel) (by decide +kernel)
theorem mw_1142 : (Cond.methodLink RX9 67 yX1_seesOthers) ∈ gx_G := gx_mem 1142 (by decide +kernel) (by decide +kernel)
theorem mw_1143 : (Cond.instanceMethod yX1_seesOthers) ∈ gx_G := gx_mem 1143 (by decide +kernel) (by decide +kernel)
theorem mw_1144 : (Cond.selects RX1 yX1_seesOthers yX1_seesOthers) ∈ gx_G := gx_mem 1144 (by decide +kernel) (by decide +kernel)
theorem mw_1145 : (Cond.code yX1_seesOthers cX1_seesOthers 1 (some .boolean)) ∈ gx_G := gx_mem 1145 (by decide +kernel) (by decide +kernel)
theorem mw_1146 : (Cond.methodLink RX9 73 yX6_holdBack) ∈ gx_G := gx_mem 1146 (by decide +kernel) (by decide +kernel)
theorem mw_1147 : (Cond.instanceMethod yX6_holdBack) ∈ gx_G := gx_mem 1147 (by decide +kernel) (by decide +kernel)
theorem mw_1148 : (Cond.selects RX6 yX6_holdBack yX6_holdBack) ∈ gx_G := gx_mem 1148 (by decide +kernel) (by decide +kernel)
theorem mw_1149 : (Cond.code yX6_holdBack cX6_holdBack 3 none) ∈ gx_G := gx_mem 1149 (by decide +kernel) (by decide +kernel)
theorem mw_1151 : (Cond.methodLink RX11 347 yX11_fewestTurns) ∈ gx_G := gx_mem 1151 (by decide +kernel) (by decide +kernel)
theorem mw_1153 : (Cond.instanceMethod yX11_fewestTurns) ∈ gx_G := gx_mem 1153 (by decide +kernel) (by decide +kernel)
theorem mw_1154 : (Cond.code yX11_fewestTurns cX11_fewestTurns 9 (some .int)) ∈ gx_G := gx_mem 1154 (by decide +kernel) (by decide +kernel)
theorem mw_1155 : (Cond.methodLink RX11 350 yX9_forgetSets) ∈ gx_G := gx_mem 1155 (by decide +kernel) (by decide +kernel)
theorem mw_1156 : (Cond.instanceMethod yX9_forgetSets) ∈ gx_G := gx_mem 1156 (by decide +kernel) (by decide +kernel)
theorem mw_1157 : (Cond.selects RX9 yX9_forgetSets yX9_forgetSets) ∈ gx_G := gx_mem 1157 (by decide +kernel) (by decide +kernel)
theorem mw_1158 : (Cond.code yX9_forgetSets cX9_forgetSets 3 none) ∈ gx_G := gx_mem 1158 (by decide +kernel) (by decide +kernel)
theorem mw_1159 : (Cond.methodLink RX9 121 yX9_remember) ∈ gx_G := gx_mem 1159 (by decide +kernel) (by decide +kernel)
theorem mw_1161 : (Cond.instanceMethod yX9_remember) ∈ gx_G := gx_mem 1161 (by decide +kernel) (by decide +kernel)
theorem mw_1162 : (Cond.code yX9_remember cX9_remember 3 none) ∈ gx_G := gx_mem 1162 (by decide +kernel) (by decide +kernel)
theorem mw_1163 : (Cond.methodLink RX9 125 yX8_nextSet) ∈ gx_G := gx_mem 1163 (by decide +kernel) (by decide +kernel)
theorem mw_1164 : (Cond.instanceMethod yX8_nextSet) ∈ gx_G := gx_mem 1164 (by decide +kernel) (by decide +kernel)
theorem mw_1165 : (Cond.selects RX8 yX8_nextSet yX8_nextSet) ∈ gx_G := gx_mem 1165 (by decide +kernel) (by decide +kernel)
theorem mw_1166 : (Cond.code yX8_nextSet cX8_nextSet 2 (some .int)) ∈ gx_G := gx_mem 1166 (by decide +kernel) (by decide +kernel)
theorem mw_1167 : (Cond.methodLink RX11 356 yX9_outcome) ∈ gx_G := gx_mem 1167 (by decide +kernel) (by decide +kernel)
theorem mw_1168 : (Cond.instanceMethod yX9_outcome) ∈ gx_G := gx_mem 1168 (by decide +kernel) (by decide +kernel)
theorem mw_1169 : (Cond.selects RX9 yX9_outcome yX9_outcome) ∈ gx_G := gx_mem 1169 (by decide +kernel) (by decide +kernel)
theorem mw_1170 : (Cond.code yX9_outcome cX9_outcome 2 (some .int)) ∈ gx_G := gx_mem 1170 (by decide +kernel) (by decide +kernel)
theorem mw_1171 : (Cond.methodLink RX9 128 yX9_go) ∈ gx_G := gx_mem 1171 (by decide +kernel) (by decide +kernel)
theorem mw_1172 : (Cond.methodLink RX9 131 yX9_spread) ∈ gx_G := gx_mem 1172 (by decide +kernel) (by decide +kernel)
theorem mw_1174 : (Cond.instanceMethod yX9_spread) ∈ gx_G := gx_mem 1174 (by decide +kernel) (by decide +kernel)
theorem mw_1175 : (Cond.code yX9_spread cX9_spread 7 none) ∈ gx_G := gx_mem 1175 (by decide +kernel) (by decide +kernel)
theorem mw_1176 : (Cond.methodLink RX9 137 yJ6_bitCount_0f7a4) ∈ gx_G := gx_mem 1176 (by decide +kernel) (by decide +kernel)
theorem mw_1177 : (Cond.methodLink RX11 359 yX8_nextSet) ∈ gx_G := gx_mem 1177 (by decide +kernel) (by decide +kernel)
theorem mw_1213 : (Cond.methodLink RX11 372 yX11_findFits) ∈ gx_G := gx_mem 1213 (by decide +kernel) (by decide +kernel)
theorem mw_1215 : (Cond.instanceMethod yX11_findFits) ∈ gx_G := gx_mem 1215 (by decide +kernel) (by decide +kernel)
theorem mw_1216 : (Cond.code yX11_findFits cX11_findFits 5 none) ∈ gx_G := gx_mem 1216 (by decide +kernel) (by decide +kernel)
theorem mw_1217 : (Cond.methodLink RX11 384 yX9_fitAll) ∈ gx_G := gx_mem 1217 (by decide +kernel) (by decide +kernel)
theorem mw_1218 : (Cond.instanceMethod yX9_fitAll) ∈ gx_G := gx_mem 1218 (by decide +kernel) (by decide +kernel)
theorem mw_1219 : (Cond.selects RX9 yX9_fitAll yX9_fitAll) ∈ gx_G := gx_mem 1219 (by decide +kernel) (by decide +kernel)
theorem mw_1220 : (Cond.code yX9_fitAll cX9_fitAll 3 none) ∈ gx_G := gx_mem 1220 (by decide +kernel) (by decide +kernel)
theorem mw_1221 : (Cond.methodLink RX9 142 yX9_setFitting) ∈ gx_G := gx_mem 1221 (by decide +kernel) (by decide +kernel)
theorem mw_1222 : (Cond.instanceMethod yX9_setFitting) ∈ gx_G := gx_mem 1222 (by decide +kernel) (by decide +kernel)
theorem mw_1223 : (Cond.selects RX9 yX9_setFitting yX9_setFitting) ∈ gx_G := gx_mem 1223 (by decide +kernel) (by decide +kernel)
theorem mw_1224 : (Cond.code yX9_setFitting cX9_setFitting 3 none) ∈ gx_G := gx_mem 1224 (by decide +kernel) (by decide +kernel)
theorem mw_1241 : (Cond.methodLink RX11 378 yX9_fits) ∈ gx_G := gx_mem 1241 (by decide +kernel) (by decide +kernel)
theorem mw_1242 : (Cond.instanceMethod yX9_fits) ∈ gx_G := gx_mem 1242 (by decide +kernel) (by decide +kernel)
theorem mw_1243 : (Cond.selects RX9 yX9_fits yX9_fits) ∈ gx_G := gx_mem 1243 (by decide +kernel) (by decide +kernel)
theorem mw_1244 : (Cond.code yX9_fits cX9_fits 2 (some .boolean)) ∈ gx_G := gx_mem 1244 (by decide +kernel) (by decide +kernel)
theorem cw_X8_40 : gx_Wv RX8 40 yX8_clear cX8_clear 2 none 0 := ⟨⟨mw_520, mw_522, mw_0, mw_91, mw_523⟩, by decide +kernel⟩
theorem cw_X8_43 : gx_Wv RX8 43 yX7_showAtMost cX7_showAtMost 2 none 1 := ⟨⟨mw_524, mw_525, mw_526, mw_90, mw_527⟩, by decide +kernel⟩
theorem cw_X8_49 : gx_Wv RX8 49 yX7_isOver cX7_isOver 2 (some .boolean) 1 := ⟨⟨mw_531, mw_532, mw_533, mw_90, mw_534⟩, by decide +kernel⟩
theorem cw_X10_19 : gx_Wv RX10 19 yX7_showAtMost cX7_showAtMost 2 none 1 := ⟨⟨mw_689, mw_525, mw_526, mw_90, mw_527⟩, by decide +kernel⟩
theorem cw_X10_25 : gx_Wv RX10 25 yX7_isOver cX7_isOver 2 (some .boolean) 1 := ⟨⟨mw_690, mw_532, mw_533, mw_90, mw_534⟩, by decide +kernel⟩
theorem cw_X5_84 : gx_Wv RX5 84 yX5_addStep cX5_addStep 2 none 1 := ⟨⟨mw_711, mw_713, mw_10, mw_93, mw_714⟩, by decide +kernel⟩
theorem cw_X5_30 : gx_Wv RX5 30 yX5_clear cX5_clear 1 none 0 := ⟨⟨mw_701, mw_703, mw_8, mw_93, mw_704⟩, by decide +kernel⟩
theorem cw_X5_33 : gx_Wv RX5 33 yX7_showAtMost cX7_showAtMost 2 none 1 := ⟨⟨mw_705, mw_525, mw_526, mw_90, mw_527⟩, by decide +kernel⟩
theorem cw_X5_39 : gx_Wv RX5 39 yX7_isOver cX7_isOver 2 (some .boolean) 1 := ⟨⟨mw_706, mw_532, mw_533, mw_90, mw_534⟩, by decide +kernel⟩
theorem cw_X5_43 : gx_Wv RX5 43 yX5_addFact cX5_addFact 2 none 1 := ⟨⟨mw_707, mw_709, mw_9, mw_93, mw_710⟩, by decide +kernel⟩
theorem cw_X3_23 : gx_Wv RX3 23 yX6_copy cX6_copy 3 none 1 := ⟨⟨mw_776, mw_777, mw_778, mw_95, mw_779⟩, by decide +kernel⟩
theorem cw_X1_33 : gx_Wv RX1 33 yX10_in cX10_in 2 (some .int) 1 := ⟨⟨mw_849, mw_761, mw_762, mw_92, mw_763⟩, by decide +kernel⟩
theorem cw_X1_57 : gx_Wv RX1 57 yX1_flowIn cX1_flowIn 5 (some .int) 1 := ⟨⟨mw_845, mw_847, mw_19, mw_99, mw_848⟩, by decide +kernel⟩
theorem cw_X9_63 : gx_Wv RX9 63 yX6_copy cX6_copy 3 none 1 := ⟨⟨mw_1027, mw_777, mw_778, mw_95, mw_779⟩, by decide +kernel⟩
theorem cw_X9_108 : gx_Wv RX9 108 yX6_onWay cX6_onWay 1 (some .int) 0 := ⟨⟨mw_1028, mw_1029, mw_1030, mw_95, mw_1031⟩, by decide +kernel⟩
theorem cw_X9_67 : gx_Wv RX9 67 yX1_seesOthers cX1_seesOthers 1 (some .boolean) 0 := ⟨⟨mw_1142, mw_1143, mw_1144, mw_99, mw_1145⟩, by decide +kernel⟩
theorem cw_X9_73 : gx_Wv RX9 73 yX6_holdBack cX6_holdBack 3 none 1 := ⟨⟨mw_1146, mw_1147, mw_1148, mw_95, mw_1149⟩, by decide +kernel⟩
theorem cw_X9_86 : gx_Wv RX9 86 yX9_begin cX9_begin 2 none 1 := ⟨⟨mw_1092, mw_1093, mw_1094, mw_100, mw_1095⟩, by decide +kernel⟩
theorem cw_X9_95 : gx_Wv RX9 95 yX6_spotOf cX6_spotOf 2 (some .int) 1 := ⟨⟨mw_1096, mw_860, mw_861, mw_95, mw_862⟩, by decide +kernel⟩
theorem cw_X9_121 : gx_Wv RX9 121 yX9_remember cX9_remember 3 none 2 := ⟨⟨mw_1159, mw_1161, mw_34, mw_100, mw_1162⟩, by decide +kernel⟩
theorem cw_X9_125 : gx_Wv RX9 125 yX8_nextSet cX8_nextSet 2 (some .int) 1 := ⟨⟨mw_1163, mw_1164, mw_1165, mw_91, mw_1166⟩, by decide +kernel⟩
theorem cw_X9_137 : gx_Ws RX9 137 yJ6_bitCount_0f7a4 cJ6_bitCount_0f7a4 1 (some .int) 1 := ⟨⟨mw_1176, mw_896, mw_114, mw_897⟩, by decide +kernel⟩
theorem cw_X9_128 : gx_Wv RX9 128 yX9_go cX9_go 3 (some .int) 1 := ⟨⟨mw_1171, mw_1089, mw_1090, mw_100, mw_1091⟩, by decide +kernel⟩
theorem cw_X9_131 : gx_Wv RX9 131 yX9_spread cX9_spread 7 none 2 := ⟨⟨mw_1172, mw_1174, mw_35, mw_100, mw_1175⟩, by decide +kernel⟩
theorem cw_X9_142 : gx_Wv RX9 142 yX9_setFitting cX9_setFitting 3 none 2 := ⟨⟨mw_1221, mw_1222, mw_1223, mw_100, mw_1224⟩, by decide +kernel⟩
theorem cw_X2_30 : gx_Wv RX2 30 yX7_showAtMost cX7_showAtMost 2 none 1 := ⟨⟨mw_942, mw_525, mw_526, mw_90, mw_527⟩, by decide +kernel⟩
theorem cw_X2_36 : gx_Wv RX2 36 yX7_isOver cX7_isOver 2 (some .boolean) 1 := ⟨⟨mw_943, mw_532, mw_533, mw_90, mw_534⟩, by decide +kernel⟩
theorem cw_X11_266 : gx_Wv RX11 266 yX1_pass cX1_pass 6 none 1 := ⟨⟨mw_841, mw_842, mw_843, mw_99, mw_844⟩, by decide +kernel⟩
theorem cw_X11_350 : gx_Wv RX11 350 yX9_forgetSets cX9_forgetSets 3 none 0 := ⟨⟨mw_1155, mw_1156, mw_1157, mw_100, mw_1158⟩, by decide +kernel⟩
theorem cw_X11_261 : gx_Ws RX11 261 yJ6_bitCount_0f7a4 cJ6_bitCount_0f7a4 1 (some .int) 1 := ⟨⟨mw_933, mw_896, mw_114, mw_897⟩, by decide +kernel⟩
theorem cw_X11_356 : gx_Wv RX11 356 yX9_outcome cX9_outcome 2 (some .int) 1 := ⟨⟨mw_1167, mw_1168, mw_1169, mw_100, mw_1170⟩, by decide +kernel⟩
theorem cw_X11_320 : gx_Ws RX11 320 yX11_minutesOf cX11_minutesOf 1 (some .int) 1 := ⟨⟨mw_1101, mw_1102, mw_89, mw_1103⟩, by decide +kernel⟩
theorem cw_X11_359 : gx_Wv RX11 359 yX8_nextSet cX8_nextSet 2 (some .int) 1 := ⟨⟨mw_1177, mw_1164, mw_1165, mw_91, mw_1166⟩, by decide +kernel⟩
theorem cw_X11_257 : gx_Wv RX11 257 yX4_tell_ cX4_tell_ 5 none 2 := ⟨⟨mw_929, mw_930, mw_931, mw_98, mw_932⟩, by decide +kernel⟩
theorem cw_X11_384 : gx_Wv RX11 384 yX9_fitAll cX9_fitAll 3 none 0 := ⟨⟨mw_1217, mw_1218, mw_1219, mw_100, mw_1220⟩, by decide +kernel⟩
theorem cw_X11_103 : gx_Wv RX11 103 yX7_addFour cX7_addFour 2 (some .boolean) 1 := ⟨⟨mw_500, mw_501, mw_502, mw_90, mw_503⟩, by decide +kernel⟩
theorem cw_X11_111 : gx_Wv RX11 111 yX7_cut cX7_cut 2 (some .boolean) 1 := ⟨⟨mw_508, mw_509, mw_510, mw_90, mw_511⟩, by decide +kernel⟩
theorem cw_X11_114 : gx_Wv RX11 114 yX8_read cX8_read 5 (some .int) 1 := ⟨⟨mw_516, mw_517, mw_518, mw_91, mw_519⟩, by decide +kernel⟩
theorem cw_X11_118 : gx_Wv RX11 118 yX8_copy cX8_copy 3 none 1 := ⟨⟨mw_668, mw_669, mw_670, mw_91, mw_671⟩, by decide +kernel⟩
theorem cw_X11_122 : gx_Wv RX11 122 yX6_clear cX6_clear 1 none 0 := ⟨⟨mw_672, mw_673, mw_674, mw_95, mw_675⟩, by decide +kernel⟩
theorem cw_X11_125 : gx_Wv RX11 125 yX3_clear cX3_clear 1 none 0 := ⟨⟨mw_676, mw_677, mw_678, mw_96, mw_679⟩, by decide +kernel⟩
theorem cw_X11_132 : gx_Wv RX11 132 yX10_read cX10_read 4 (some .int) 1 := ⟨⟨mw_685, mw_686, mw_687, mw_92, mw_688⟩, by decide +kernel⟩
theorem cw_X11_133 : gx_Wv RX11 133 yX5_read cX5_read 4 (some .int) 1 := ⟨⟨mw_697, mw_698, mw_699, mw_93, mw_700⟩, by decide +kernel⟩
theorem cw_X11_134 : gx_Wv RX11 134 yX5_copy cX5_copy 3 none 1 := ⟨⟨mw_752, mw_753, mw_754, mw_93, mw_755⟩, by decide +kernel⟩
theorem cw_X11_198 : gx_Wv RX11 198 yX10_in cX10_in 2 (some .int) 1 := ⟨⟨mw_760, mw_761, mw_762, mw_92, mw_763⟩, by decide +kernel⟩
theorem cw_X11_201 : gx_Wv RX11 201 yX8_isFork cX8_isFork 2 (some .boolean) 1 := ⟨⟨mw_768, mw_769, mw_770, mw_91, mw_771⟩, by decide +kernel⟩
theorem cw_X11_137 : gx_Wv RX11 137 yX8_has cX8_has 2 (some .boolean) 1 := ⟨⟨mw_798, mw_799, mw_800, mw_91, mw_801⟩, by decide +kernel⟩
theorem cw_X11_241 : gx_Wv RX11 241 yX6_isOnWay cX6_isOnWay 2 (some .boolean) 1 := ⟨⟨mw_824, mw_825, mw_826, mw_95, mw_827⟩, by decide +kernel⟩
theorem cw_X11_253 : gx_Wv RX11 253 yX11_passMinutes cX11_passMinutes 3 none 1 := ⟨⟨mw_837, mw_839, mw_18, mw_89, mw_840⟩, by decide +kernel⟩
theorem cw_X11_204 : gx_Wv RX11 204 yX3_push cX3_push 2 none 1 := ⟨⟨mw_772, mw_773, mw_774, mw_96, mw_775⟩, by decide +kernel⟩
theorem cw_X11_269 : gx_Wv RX11 269 yX2_read cX2_read 5 (some .int) 1 := ⟨⟨mw_938, mw_939, mw_940, mw_94, mw_941⟩, by decide +kernel⟩
theorem cw_X11_270 : gx_Wv RX11 270 yX6_copy cX6_copy 3 none 1 := ⟨⟨mw_979, mw_777, mw_778, mw_95, mw_779⟩, by decide +kernel⟩
theorem cw_X11_283 : gx_Wv RX11 283 yX3_pop cX3_pop 3 (some .boolean) 1 := ⟨⟨mw_1008, mw_1009, mw_1010, mw_96, mw_1011⟩, by decide +kernel⟩
theorem cw_X11_172 : gx_Wv RX11 172 yX6_has cX6_has 2 (some .boolean) 1 := ⟨⟨mw_1016, mw_1017, mw_1018, mw_95, mw_1019⟩, by decide +kernel⟩
theorem cw_X11_290 : gx_Ws RX11 290 yX11_isAhead cX11_isAhead 1 (some .boolean) 1 := ⟨⟨mw_1020, mw_1021, mw_89, mw_1022⟩, by decide +kernel⟩
theorem cw_X11_166 : gx_Wv RX11 166 yX6_onWay cX6_onWay 1 (some .int) 0 := ⟨⟨mw_1065, mw_1029, mw_1030, mw_95, mw_1031⟩, by decide +kernel⟩
theorem cw_X11_293 : gx_Wv RX11 293 yX9_goOn cX9_goOn 4 none 2 := ⟨⟨mw_1023, mw_1024, mw_1025, mw_100, mw_1026⟩, by decide +kernel⟩
theorem cw_X11_227 : gx_Ws RX11 227 yX11_isLoad cX11_isLoad 2 (some .boolean) 2 := ⟨⟨mw_802, mw_803, mw_89, mw_804⟩, by decide +kernel⟩
theorem cw_X11_234 : gx_Wv RX11 234 yX8_isKitchen cX8_isKitchen 2 (some .boolean) 1 := ⟨⟨mw_808, mw_809, mw_810, mw_91, mw_811⟩, by decide +kernel⟩
theorem cw_X11_343 : gx_Wv RX11 343 yX9_startFrom cX9_startFrom 4 none 3 := ⟨⟨mw_1138, mw_1139, mw_1140, mw_100, mw_1141⟩, by decide +kernel⟩
theorem cw_X11_347 : gx_Wv RX11 347 yX11_fewestTurns cX11_fewestTurns 9 (some .int) 1 := ⟨⟨mw_1151, mw_1153, mw_33, mw_89, mw_1154⟩, by decide +kernel⟩
theorem cw_X11_372 : gx_Wv RX11 372 yX11_findFits cX11_findFits 5 none 0 := ⟨⟨mw_1213, mw_1215, mw_37, mw_89, mw_1216⟩, by decide +kernel⟩
theorem cw_X11_378 : gx_Wv RX11 378 yX9_fits cX9_fits 2 (some .boolean) 1 := ⟨⟨mw_1241, mw_1242, mw_1243, mw_100, mw_1244⟩, by decide +kernel⟩
theorem cw_X11_300 : gx_Wv RX11 300 yX4_tell__ cX4_tell__ 7 none 3 := ⟨⟨mw_1039, mw_1040, mw_1041, mw_98, mw_1042⟩, by decide +kernel⟩
theorem cw_X11_307 : gx_Wv RX11 307 yX4_tell cX4_tell 3 none 1 := ⟨⟨mw_1057, mw_1058, mw_1059, mw_98, mw_1060⟩, by decide +kernel⟩
theorem t_0 : gx_tb[0]? = some (.inl (12, [some (some 1), some (some 3), some (some 9), some (some 15), some (some 17), some (some 21), some (some 25), some (some 30), some (some 37), some (some 44), some (some 151), none, some (some 152), some (some 156), some (some 158), some (some 160)])) := rfl
theorem t_1 : gx_tb[1]? = some (.inl (8, [some (some 2), none, none])) := rfl
theorem t_2 : gx_tb[2]? = some (.inr (0, 80, [])) := rfl
theorem t_3 : gx_tb[3]? = some (.inl (9, [some (some 4), some (some 5), some (some 6), some (some 7), some (some 8), none, none, none, none])) := rfl
theorem t_4 : gx_tb[4]? = some (.inr (0, 12, [])) := rfl
theorem t_5 : gx_tb[5]? = some (.inr (0, 12, [])) := rfl
theorem t_6 : gx_tb[6]? = some (.inr (0, 12, [])) := rfl
theorem t_7 : gx_tb[7]? = some (.inr (0, 12, [])) := rfl
theorem t_9 : gx_tb[9]? = some (.inl (9, [some (some 10), some (some 11), some (some 12), some (some 13), some (some 14), none, none, none, none])) := rfl
theorem t_10 : gx_tb[10]? = some (.inr (0, 12, [])) := rfl
theorem t_11 : gx_tb[11]? = some (.inr (0, 12, [])) := rfl
theorem t_12 : gx_tb[12]? = some (.inr (0, 12, [])) := rfl
theorem t_13 : gx_tb[13]? = some (.inr (0, 12, [])) := rfl
theorem t_14 : gx_tb[14]? = some (.inr (0, 12, [])) := rfl
theorem t_15 : gx_tb[15]? = some (.inl (11, [some (some 16), none])) := rfl
theorem t_17 : gx_tb[17]? = some (.inl (6, [some (some 18), some (some 19), some (some 20), none, none, none, none, none, none, none, none])) := rfl
theorem t_18 : gx_tb[18]? = some (.inr (0, 40, [])) := rfl
theorem t_21 : gx_tb[21]? = some (.inl (6, [some (some 22), some (some 23), some (some 24), none, none, none, none, none, none, none, none])) := rfl
theorem t_22 : gx_tb[22]? = some (.inr (0, 40, [])) := rfl
theorem t_25 : gx_tb[25]? = some (.inl (3, [some (some 26), some (some 27), some (some 28), some (some 29), none])) := rfl
theorem t_30 : gx_tb[30]? = some (.inl (7, [some (some 31), some (some 32), some (some 33), some (some 34), some (some 35), some (some 36), none, none, none, none, none])) := rfl
theorem t_37 : gx_tb[37]? = some (.inl (7, [some (some 38), some (some 39), some (some 40), some (some 41), some (some 42), some (some 43), none, none, none, none, none])) := rfl
theorem t_44 : gx_tb[44]? = some (.inl (4, [some (some 45), none, none])) := rfl
theorem t_45 : gx_tb[45]? = some (.inr (3, 15, [some 46, some 53, some 60, some 67, some 74, some 81, some 88, some 95, some 102, some 109, some 116, some 123, some 130, some 137, some 144])) := rfl
theorem t_46 : gx_tb[46]? = some (.inl (7, [some (some 47), some (some 48), some (some 49), some (some 50), some (some 51), some (some 52), none, none, none, none, none])) := rfl
theorem t_151 : gx_tb[151]? = some (.inr (3, 3, [some 178, some 185, some 192])) := rfl
theorem t_152 : gx_tb[152]? = some (.inl (1, [some (some 153), some (some 154), some (some 155), none])) := rfl
theorem t_156 : gx_tb[156]? = some (.inl (5, [some (some 157), none])) := rfl
theorem t_157 : gx_tb[157]? = some (.inr (1, 3, [])) := rfl
theorem t_158 : gx_tb[158]? = some (.inl (2, [some (some 3), some (some 15), some (some 17), some (some 159), none, none, none, none, none, none])) := rfl
theorem t_160 : gx_tb[160]? = some (.inl (10, [some (some 3), some (some 158), some (some 161), some (some 162), some (some 163), none, none, some (some 164), some (some 171)])) := rfl
theorem t_161 : gx_tb[161]? = some (.inr (0, 4096, [])) := rfl
theorem t_162 : gx_tb[162]? = some (.inr (2, 4096, [])) := rfl
theorem t_164 : gx_tb[164]? = some (.inl (7, [some (some 165), some (some 166), some (some 167), some (some 168), some (some 169), some (some 170), none, none, none, none, none])) := rfl
theorem t_171 : gx_tb[171]? = some (.inl (7, [some (some 172), some (some 173), some (some 174), some (some 175), some (some 176), some (some 177), none, none, none, none, none])) := rfl
theorem t_172 : gx_tb[172]? = some (.inr (0, 6, [])) := rfl
theorem t_178 : gx_tb[178]? = some (.inl (7, [some (some 179), some (some 180), some (some 181), some (some 182), some (some 183), some (some 184), none, none, none, none, none])) := rfl
theorem t_185 : gx_tb[185]? = some (.inl (7, [some (some 186), some (some 187), some (some 188), some (some 189), some (some 190), some (some 191), none, none, none, none, none])) := rfl
theorem t_192 : gx_tb[192]? = some (.inl (7, [some (some 193), some (some 194), some (some 195), some (some 196), some (some 197), some (some 198), none, none, none, none, none])) := rfl
theorem dJ6_bitCount_0f7a4_0 : decode cJ6_bitCount_0f7a4 0 = .ok (.iload_n 0, 1) := by decide +kernel
theorem dJ6_bitCount_0f7a4_1 : decode cJ6_bitCount_0f7a4 1 = .ok (.iload_n 0, 1) := by decide +kernel
theorem dJ6_bitCount_0f7a4_2 : decode cJ6_bitCount_0f7a4 2 = .ok (.iconst 1, 1) := by decide +kernel
theorem dJ6_bitCount_0f7a4_3 : decode cJ6_bitCount_0f7a4 3 = .ok (.iushr, 1) := by decide +kernel
theorem dJ6_bitCount_0f7a4_4 : decode cJ6_bitCount_0f7a4 4 = .ok (.ldc_w 265, 3) := by decide +kernel
theorem dJ6_bitCount_0f7a4_7 : decode cJ6_bitCount_0f7a4 7 = .ok (.iand, 1) := by decide +kernel
theorem dJ6_bitCount_0f7a4_8 : decode cJ6_bitCount_0f7a4 8 = .ok (.isub, 1) := by decide +kernel
theorem dJ6_bitCount_0f7a4_9 : decode cJ6_bitCount_0f7a4 9 = .ok (.istore_n 0, 1) := by decide +kernel
theorem dJ6_bitCount_0f7a4_10 : decode cJ6_bitCount_0f7a4 10 = .ok (.iload_n 0, 1) := by decide +kernel
theorem dJ6_bitCount_0f7a4_11 : decode cJ6_bitCount_0f7a4 11 = .ok (.ldc_w 266, 3) := by decide +kernel
theorem dJ6_bitCount_0f7a4_14 : decode cJ6_bitCount_0f7a4 14 = .ok (.iand, 1) := by decide +kernel
theorem dJ6_bitCount_0f7a4_15 : decode cJ6_bitCount_0f7a4 15 = .ok (.iload_n 0, 1) := by decide +kernel
theorem dJ6_bitCount_0f7a4_16 : decode cJ6_bitCount_0f7a4 16 = .ok (.iconst 2, 1) := by decide +kernel
theorem dJ6_bitCount_0f7a4_17 : decode cJ6_bitCount_0f7a4 17 = .ok (.iushr, 1) := by decide +kernel
theorem dJ6_bitCount_0f7a4_18 : decode cJ6_bitCount_0f7a4 18 = .ok (.ldc_w 266, 3) := by decide +kernel
theorem dJ6_bitCount_0f7a4_21 : decode cJ6_bitCount_0f7a4 21 = .ok (.iand, 1) := by decide +kernel
theorem dJ6_bitCount_0f7a4_22 : decode cJ6_bitCount_0f7a4 22 = .ok (.iadd, 1) := by decide +kernel
theorem dJ6_bitCount_0f7a4_23 : decode cJ6_bitCount_0f7a4 23 = .ok (.istore_n 0, 1) := by decide +kernel
theorem dJ6_bitCount_0f7a4_24 : decode cJ6_bitCount_0f7a4 24 = .ok (.iload_n 0, 1) := by decide +kernel
theorem dJ6_bitCount_0f7a4_25 : decode cJ6_bitCount_0f7a4 25 = .ok (.iload_n 0, 1) := by decide +kernel
theorem dJ6_bitCount_0f7a4_26 : decode cJ6_bitCount_0f7a4 26 = .ok (.iconst 4, 1) := by decide +kernel
theorem dJ6_bitCount_0f7a4_27 : decode cJ6_bitCount_0f7a4 27 = .ok (.iushr, 1) := by decide +kernel
theorem dJ6_bitCount_0f7a4_28 : decode cJ6_bitCount_0f7a4 28 = .ok (.iadd, 1) := by decide +kernel
theorem dJ6_bitCount_0f7a4_29 : decode cJ6_bitCount_0f7a4 29 = .ok (.ldc_w 267, 3) := by decide +kernel
theorem dJ6_bitCount_0f7a4_32 : decode cJ6_bitCount_0f7a4 32 = .ok (.iand, 1) := by decide +kernel
theorem dJ6_bitCount_0f7a4_33 : decode cJ6_bitCount_0f7a4 33 = .ok (.istore_n 0, 1) := by decide +kernel
theorem dJ6_bitCount_0f7a4_34 : decode cJ6_bitCount_0f7a4 34 = .ok (.iload_n 0, 1) := by decide +kernel
theorem dJ6_bitCount_0f7a4_35 : decode cJ6_bitCount_0f7a4 35 = .ok (.iload_n 0, 1) := by decide +kernel
theorem dJ6_bitCount_0f7a4_36 : decode cJ6_bitCount_0f7a4 36 = .ok (.bipush 8, 2) := by decide +kernel
theorem dJ6_bitCount_0f7a4_38 : decode cJ6_bitCount_0f7a4 38 = .ok (.iushr, 1) := by decide +kernel
theorem dJ6_bitCount_0f7a4_39 : decode cJ6_bitCount_0f7a4 39 = .ok (.iadd, 1) := by decide +kernel
theorem dJ6_bitCount_0f7a4_40 : decode cJ6_bitCount_0f7a4 40 = .ok (.istore_n 0, 1) := by decide +kernel
theorem dJ6_bitCount_0f7a4_41 : decode cJ6_bitCount_0f7a4 41 = .ok (.iload_n 0, 1) := by decide +kernel
theorem dJ6_bitCount_0f7a4_42 : decode cJ6_bitCount_0f7a4 42 = .ok (.iload_n 0, 1) := by decide +kernel
theorem dJ6_bitCount_0f7a4_43 : decode cJ6_bitCount_0f7a4 43 = .ok (.bipush 16, 2) := by decide +kernel
theorem dJ6_bitCount_0f7a4_45 : decode cJ6_bitCount_0f7a4 45 = .ok (.iushr, 1) := by decide +kernel
theorem dJ6_bitCount_0f7a4_46 : decode cJ6_bitCount_0f7a4 46 = .ok (.iadd, 1) := by decide +kernel
theorem dJ6_bitCount_0f7a4_47 : decode cJ6_bitCount_0f7a4 47 = .ok (.istore_n 0, 1) := by decide +kernel
theorem dJ6_bitCount_0f7a4_48 : decode cJ6_bitCount_0f7a4 48 = .ok (.iload_n 0, 1) := by decide +kernel
theorem dJ6_bitCount_0f7a4_49 : decode cJ6_bitCount_0f7a4 49 = .ok (.bipush 63, 2) := by decide +kernel
theorem dJ6_bitCount_0f7a4_51 : decode cJ6_bitCount_0f7a4 51 = .ok (.iand, 1) := by decide +kernel
theorem dJ6_bitCount_0f7a4_52 : decode cJ6_bitCount_0f7a4 52 = .ok (.ireturn, 1) := by decide +kernel
theorem dX10_in_0 : decode cX10_in 0 = .ok (.aload_n 0, 1) := by decide +kernel
theorem dX10_in_1 : decode cX10_in 1 = .ok (.getfield 15, 3) := by decide +kernel
theorem dX10_in_4 : decode cX10_in 4 = .ok (.ifCond .le 16, 3) := by decide +kernel
theorem dX10_in_20 : decode cX10_in 20 = .ok (.iconst 1, 1) := by decide +kernel
theorem dX10_in_21 : decode cX10_in 21 = .ok (.ireturn, 1) := by decide +kernel
theorem dX10_read_0 : decode cX10_read 0 = .ok (.aload_n 1, 1) := by decide +kernel
theorem dX10_read_1 : decode cX10_read 1 = .ok (.bipush 40, 2) := by decide +kernel
theorem dX10_read_3 : decode cX10_read 3 = .ok (.invokevirtual 19, 3) := by decide +kernel
theorem dX10_read_6 : decode cX10_read 6 = .ok (.iconst 0, 1) := by decide +kernel
theorem dX10_read_7 : decode cX10_read 7 = .ok (.istore_n 2, 1) := by decide +kernel
theorem dX10_read_8 : decode cX10_read 8 = .ok (.iload_n 2, 1) := by decide +kernel
theorem dX10_read_9 : decode cX10_read 9 = .ok (.bipush 40, 2) := by decide +kernel
theorem dX10_read_11 : decode cX10_read 11 = .ok (.if_icmp .gt 36, 3) := by decide +kernel
theorem dX10_read_14 : decode cX10_read 14 = .ok (.aload_n 1, 1) := by decide +kernel
theorem dX10_read_15 : decode cX10_read 15 = .ok (.iload_n 2, 1) := by decide +kernel
theorem dX10_read_16 : decode cX10_read 16 = .ok (.invokevirtual 25, 3) := by decide +kernel
theorem dX10_read_19 : decode cX10_read 19 = .ok (.ifCond .ne 28, 3) := by decide +kernel
theorem dX10_read_47 : decode cX10_read 47 = .ok (.aload_n 0, 1) := by decide +kernel
theorem dX10_read_48 : decode cX10_read 48 = .ok (.aload_n 1, 1) := by decide +kernel
theorem dX10_read_49 : decode cX10_read 49 = .ok (.getfield 33, 3) := by decide +kernel
theorem dX10_read_52 : decode cX10_read 52 = .ok (.bipush 40, 2) := by decide +kernel
theorem dX10_read_54 : decode cX10_read 54 = .ok (.invokestatic 34, 3) := by decide +kernel
theorem dX10_read_57 : decode cX10_read 57 = .ok (.putfield 15, 3) := by decide +kernel
theorem dX10_read_60 : decode cX10_read 60 = .ok (.iconst 0, 1) := by decide +kernel
theorem dX10_read_61 : decode cX10_read 61 = .ok (.istore_n 2, 1) := by decide +kernel
theorem dX10_read_62 : decode cX10_read 62 = .ok (.iload_n 2, 1) := by decide +kernel
theorem dX10_read_63 : decode cX10_read 63 = .ok (.aload_n 0, 1) := by decide +kernel
theorem dX10_read_64 : decode cX10_read 64 = .ok (.getfield 15, 3) := by decide +kernel
theorem dX10_read_67 : decode cX10_read 67 = .ok (.if_icmp .ge 20, 3) := by decide +kernel
theorem dX10_read_87 : decode cX10_read 87 = .ok (.aload_n 0, 1) := by decide +kernel
theorem dX10_read_88 : decode cX10_read 88 = .ok (.getfield 15, 3) := by decide +kernel
theorem dX10_read_91 : decode cX10_read 91 = .ok (.ireturn, 1) := by decide +kernel
theorem dX11_again_0 : decode cX11_again 0 = .ok (.iload_n 1, 1) := by decide +kernel
theorem dX11_again_1 : decode cX11_again 1 = .ok (.ifCond .lt 19, 3) := by decide +kernel
theorem dX11_again_4 : decode cX11_again 4 = .ok (.iload_n 1, 1) := by decide +kernel
theorem dX11_again_5 : decode cX11_again 5 = .ok (.iconst 3, 1) := by decide +kernel
theorem dX11_again_6 : decode cX11_again 6 = .ok (.if_icmp .ge 14, 3) := by decide +kernel
theorem dX11_again_9 : decode cX11_again 9 = .ok (.aload_n 0, 1) := by decide +kernel
theorem dX11_again_10 : decode cX11_again 10 = .ok (.getfield 129, 3) := by decide +kernel
theorem dX11_again_13 : decode cX11_again 13 = .ok (.iload_n 1, 1) := by decide +kernel
theorem dX11_again_14 : decode cX11_again 14 = .ok (.ishr, 1) := by decide +kernel
theorem dX11_again_15 : decode cX11_again 15 = .ok (.iconst 1, 1) := by decide +kernel
theorem dX11_again_16 : decode cX11_again 16 = .ok (.iand, 1) := by decide +kernel
theorem dX11_again_17 : decode cX11_again 17 = .ok (.ifCond .ne 5, 3) := by decide +kernel
theorem dX11_again_20 : decode cX11_again 20 = .ok (.iconst 0, 1) := by decide +kernel
theorem dX11_again_21 : decode cX11_again 21 = .ok (.ireturn, 1) := by decide +kernel
theorem dX11_basin_0 : decode cX11_basin 0 = .ok (.iload_n 1, 1) := by decide +kernel
theorem dX11_basin_1 : decode cX11_basin 1 = .ok (.iload_n 2, 1) := by decide +kernel
theorem dX11_basin_2 : decode cX11_basin 2 = .ok (.invokestatic 227, 3) := by decide +kernel
theorem dX11_basin_5 : decode cX11_basin 5 = .ok (.ifCond .eq 14, 3) := by decide +kernel
theorem dX11_basin_8 : decode cX11_basin 8 = .ok (.aload_n 0, 1) := by decide +kernel
theorem dX11_basin_9 : decode cX11_basin 9 = .ok (.getfield 19, 3) := by decide +kernel
theorem dX11_basin_12 : decode cX11_basin 12 = .ok (.iload_n 3, 1) := by decide +kernel
theorem dX11_basin_13 : decode cX11_basin 13 = .ok (.invokevirtual 234, 3) := by decide +kernel
theorem dX11_basin_16 : decode cX11_basin 16 = .ok (.ifCond .ne 5, 3) := by decide +kernel
theorem dX11_basin_19 : decode cX11_basin 19 = .ok (.iconst (-1), 1) := by decide +kernel
theorem dX11_basin_20 : decode cX11_basin 20 = .ok (.ireturn, 1) := by decide +kernel
theorem dX11_boat_0 : decode cX11_boat 0 = .ok (.aload_n 0, 1) := by decide +kernel
theorem dX11_boat_1 : decode cX11_boat 1 = .ok (.getfield 19, 3) := by decide +kernel
theorem dX11_boat_4 : decode cX11_boat 4 = .ok (.iload_n 1, 1) := by decide +kernel
theorem dX11_boat_5 : decode cX11_boat 5 = .ok (.invokevirtual 137, 3) := by decide +kernel
theorem dX11_boat_8 : decode cX11_boat 8 = .ok (.ifCond .eq 22, 3) := by decide +kernel
theorem dX11_boat_30 : decode cX11_boat 30 = .ok (.iconst (-1), 1) := by decide +kernel
theorem dX11_boat_31 : decode cX11_boat 31 = .ok (.ireturn, 1) := by decide +kernel
theorem dX11_coins_0 : decode cX11_coins 0 = .ok (.aload_n 0, 1) := by decide +kernel
theorem dX11_coins_1 : decode cX11_coins 1 = .ok (.getfield 19, 3) := by decide +kernel
theorem dX11_coins_4 : decode cX11_coins 4 = .ok (.iload_n 1, 1) := by decide +kernel
theorem dX11_coins_5 : decode cX11_coins 5 = .ok (.invokevirtual 137, 3) := by decide +kernel
theorem dX11_coins_8 : decode cX11_coins 8 = .ok (.ifCond .eq 22, 3) := by decide +kernel
theorem dX11_coins_30 : decode cX11_coins 30 = .ok (.iconst (-1), 1) := by decide +kernel
theorem dX11_coins_31 : decode cX11_coins 31 = .ok (.ireturn, 1) := by decide +kernel
theorem dX11_comes_0 : decode cX11_comes 0 = .ok (.aload_n 0, 1) := by decide +kernel
theorem dX11_comes_1 : decode cX11_comes 1 = .ok (.getfield 53, 3) := by decide +kernel
theorem dX11_comes_4 : decode cX11_comes 4 = .ok (.iload_n 1, 1) := by decide +kernel
theorem dX11_comes_5 : decode cX11_comes 5 = .ok (.invokevirtual 172, 3) := by decide +kernel
theorem dX11_comes_8 : decode cX11_comes 8 = .ok (.ifCond .ne 5, 3) := by decide +kernel
theorem dX11_comes_11 : decode cX11_comes 11 = .ok (.iconst (-1), 1) := by decide +kernel
theorem dX11_comes_12 : decode cX11_comes 12 = .ok (.ireturn, 1) := by decide +kernel
theorem dX11_cork_0 : decode cX11_cork 0 = .ok (.iload_n 3, 1) := by decide +kernel
theorem dX11_cork_1 : decode cX11_cork 1 = .ok (.iconst (-1), 1) := by decide +kernel
theorem dX11_cork_2 : decode cX11_cork 2 = .ok (.if_icmp .eq 14, 3) := by decide +kernel
theorem dX11_cork_5 : decode cX11_cork 5 = .ok (.aload_n 0, 1) := by decide +kernel
theorem dX11_cork_6 : decode cX11_cork 6 = .ok (.getfield 19, 3) := by decide +kernel
theorem dX11_cork_9 : decode cX11_cork 9 = .ok (.iload_n 3, 1) := by decide +kernel
theorem dX11_cork_10 : decode cX11_cork 10 = .ok (.invokevirtual 234, 3) := by decide +kernel
theorem dX11_cork_13 : decode cX11_cork 13 = .ok (.ifCond .eq 7, 3) := by decide +kernel
theorem dX11_cork_16 : decode cX11_cork 16 = .ok (.iconst 1, 1) := by decide +kernel
theorem dX11_cork_17 : decode cX11_cork 17 = .ok (.goto 4, 3) := by decide +kernel
theorem dX11_cork_20 : decode cX11_cork 20 = .ok (.iconst 0, 1) := by decide +kernel
theorem dX11_cork_21 : decode cX11_cork 21 = .ok (.istore 4, 2) := by decide +kernel
theorem dX11_cork_23 : decode cX11_cork 23 = .ok (.aload_n 0, 1) := by decide +kernel
theorem dX11_cork_24 : decode cX11_cork 24 = .ok (.getfield 19, 3) := by decide +kernel
theorem dX11_cork_27 : decode cX11_cork 27 = .ok (.iload_n 1, 1) := by decide +kernel
theorem dX11_cork_28 : decode cX11_cork 28 = .ok (.invokevirtual 137, 3) := by decide +kernel
theorem dX11_cork_31 : decode cX11_cork 31 = .ok (.ifCond .eq 15, 3) := by decide +kernel
theorem dX11_cork_46 : decode cX11_cork 46 = .ok (.iconst (-1), 1) := by decide +kernel
theorem dX11_cork_47 : decode cX11_cork 47 = .ok (.ireturn, 1) := by decide +kernel
theorem dX11_count_0 : decode cX11_count 0 = .ok (.iload_n 1, 1) := by decide +kernel
theorem dX11_count_1 : decode cX11_count 1 = .ok (.tableswitch 159 0 11 #[63, 71, 79, 87, 95, 103, 111, 119, 127, 135, 143, 151], 63) := by decide +kernel
theorem dX11_count_64 : decode cX11_count 64 = .ok (.aload_n 0, 1) := by decide +kernel
theorem dX11_count_65 : decode cX11_count 65 = .ok (.getfield 19, 3) := by decide +kernel
theorem dX11_count_68 : decode cX11_count 68 = .ok (.getfield 323, 3) := by decide +kernel
theorem dX11_count_71 : decode cX11_count 71 = .ok (.ireturn, 1) := by decide +kernel
theorem dX11_count_72 : decode cX11_count 72 = .ok (.aload_n 0, 1) := by decide +kernel
theorem dX11_count_73 : decode cX11_count 73 = .ok (.getfield 53, 3) := by decide +kernel
theorem dX11_count_76 : decode cX11_count 76 = .ok (.getfield 208, 3) := by decide +kernel
theorem dX11_count_79 : decode cX11_count 79 = .ok (.ireturn, 1) := by decide +kernel
theorem dX11_count_80 : decode cX11_count 80 = .ok (.aload_n 0, 1) := by decide +kernel
theorem dX11_count_81 : decode cX11_count 81 = .ok (.getfield 53, 3) := by decide +kernel
theorem dX11_count_84 : decode cX11_count 84 = .ok (.getfield 324, 3) := by decide +kernel
theorem dX11_count_87 : decode cX11_count 87 = .ok (.ireturn, 1) := by decide +kernel
theorem dX11_count_88 : decode cX11_count 88 = .ok (.aload_n 0, 1) := by decide +kernel
theorem dX11_count_89 : decode cX11_count 89 = .ok (.getfield 19, 3) := by decide +kernel
theorem dX11_count_92 : decode cX11_count 92 = .ok (.getfield 375, 3) := by decide +kernel
theorem dX11_count_95 : decode cX11_count 95 = .ok (.ireturn, 1) := by decide +kernel
theorem dX11_count_96 : decode cX11_count 96 = .ok (.aload_n 0, 1) := by decide +kernel
theorem dX11_count_97 : decode cX11_count 97 = .ok (.getfield 53, 3) := by decide +kernel
theorem dX11_count_100 : decode cX11_count 100 = .ok (.getfield 157, 3) := by decide +kernel
theorem dX11_count_103 : decode cX11_count 103 = .ok (.ireturn, 1) := by decide +kernel
theorem dX11_count_104 : decode cX11_count 104 = .ok (.aload_n 0, 1) := by decide +kernel
theorem dX11_count_105 : decode cX11_count 105 = .ok (.getfield 53, 3) := by decide +kernel
theorem dX11_count_108 : decode cX11_count 108 = .ok (.invokevirtual 166, 3) := by decide +kernel
theorem dX11_count_111 : decode cX11_count 111 = .ok (.ireturn, 1) := by decide +kernel
theorem dX11_count_112 : decode cX11_count 112 = .ok (.aload_n 0, 1) := by decide +kernel
theorem dX11_count_113 : decode cX11_count 113 = .ok (.getfield 53, 3) := by decide +kernel
theorem dX11_count_116 : decode cX11_count 116 = .ok (.getfield 247, 3) := by decide +kernel
theorem dX11_count_119 : decode cX11_count 119 = .ok (.ireturn, 1) := by decide +kernel
theorem dX11_count_120 : decode cX11_count 120 = .ok (.aload_n 0, 1) := by decide +kernel
theorem dX11_count_121 : decode cX11_count 121 = .ok (.getfield 53, 3) := by decide +kernel
theorem dX11_count_124 : decode cX11_count 124 = .ok (.getfield 250, 3) := by decide +kernel
theorem dX11_count_127 : decode cX11_count 127 = .ok (.ireturn, 1) := by decide +kernel
theorem dX11_count_128 : decode cX11_count 128 = .ok (.aload_n 0, 1) := by decide +kernel
theorem dX11_count_129 : decode cX11_count 129 = .ok (.getfield 63, 3) := by decide +kernel
theorem dX11_count_132 : decode cX11_count 132 = .ok (.getfield 287, 3) := by decide +kernel
theorem dX11_count_135 : decode cX11_count 135 = .ok (.ireturn, 1) := by decide +kernel
theorem dX11_count_136 : decode cX11_count 136 = .ok (.aload_n 0, 1) := by decide +kernel
theorem dX11_count_137 : decode cX11_count 137 = .ok (.getfield 74, 3) := by decide +kernel
theorem dX11_count_140 : decode cX11_count 140 = .ok (.getfield 126, 3) := by decide +kernel
theorem dX11_count_143 : decode cX11_count 143 = .ok (.ireturn, 1) := by decide +kernel
theorem dX11_count_144 : decode cX11_count 144 = .ok (.aload_n 0, 1) := by decide +kernel
theorem dX11_count_145 : decode cX11_count 145 = .ok (.getfield 81, 3) := by decide +kernel
theorem dX11_count_148 : decode cX11_count 148 = .ok (.getfield 423, 3) := by decide +kernel
theorem dX11_count_151 : decode cX11_count 151 = .ok (.ireturn, 1) := by decide +kernel
theorem dX11_count_152 : decode cX11_count 152 = .ok (.aload_n 0, 1) := by decide +kernel
theorem dX11_count_153 : decode cX11_count 153 = .ok (.getfield 12, 3) := by decide +kernel
theorem dX11_count_156 : decode cX11_count 156 = .ok (.getfield 107, 3) := by decide +kernel
theorem dX11_count_159 : decode cX11_count 159 = .ok (.ireturn, 1) := by decide +kernel
theorem dX11_count_160 : decode cX11_count 160 = .ok (.bipush (-100), 2) := by decide +kernel
theorem dX11_count_162 : decode cX11_count 162 = .ok (.ireturn, 1) := by decide +kernel
theorem dX11_day_0 : decode cX11_day 0 = .ok (.aload_n 0, 1) := by decide +kernel
theorem dX11_day_1 : decode cX11_day 1 = .ok (.getfield 46, 3) := by decide +kernel
theorem dX11_day_4 : decode cX11_day 4 = .ok (.aload_n 0, 1) := by decide +kernel
theorem dX11_day_5 : decode cX11_day 5 = .ok (.getfield 12, 3) := by decide +kernel
theorem dX11_day_8 : decode cX11_day 8 = .ok (.invokevirtual 269, 3) := by decide +kernel
theorem dX11_day_11 : decode cX11_day 11 = .ok (.istore_n 1, 1) := by decide +kernel
theorem dX11_day_12 : decode cX11_day 12 = .ok (.aload_n 0, 1) := by decide +kernel
theorem dX11_day_13 : decode cX11_day 13 = .ok (.getfield 12, 3) := by decide +kernel
theorem dX11_day_16 : decode cX11_day 16 = .ok (.iconst 0, 1) := by decide +kernel
theorem dX11_day_17 : decode cX11_day 17 = .ok (.invokevirtual 111, 3) := by decide +kernel
theorem dX11_day_20 : decode cX11_day 20 = .ok (.pop, 1) := by decide +kernel
theorem dX11_day_21 : decode cX11_day 21 = .ok (.iload_n 1, 1) := by decide +kernel
theorem dX11_day_22 : decode cX11_day 22 = .ok (.ifCond .ge 5, 3) := by decide +kernel
theorem dX11_day_27 : decode cX11_day 27 = .ok (.aload_n 0, 1) := by decide +kernel
theorem dX11_day_28 : decode cX11_day 28 = .ok (.getfield 57, 3) := by decide +kernel
theorem dX11_day_31 : decode cX11_day 31 = .ok (.aload_n 0, 1) := by decide +kernel
theorem dX11_day_32 : decode cX11_day 32 = .ok (.getfield 53, 3) := by decide +kernel
theorem dX11_day_35 : decode cX11_day 35 = .ok (.invokevirtual 270, 3) := by decide +kernel
theorem dX11_day_38 : decode cX11_day 38 = .ok (.iconst 0, 1) := by decide +kernel
theorem dX11_day_39 : decode cX11_day 39 = .ok (.istore_n 2, 1) := by decide +kernel
theorem dX11_day_40 : decode cX11_day 40 = .ok (.iconst 0, 1) := by decide +kernel
theorem dX11_day_41 : decode cX11_day 41 = .ok (.istore_n 3, 1) := by decide +kernel
theorem dX11_day_42 : decode cX11_day 42 = .ok (.iconst 1, 1) := by decide +kernel
theorem dX11_day_43 : decode cX11_day 43 = .ok (.istore 4, 2) := by decide +kernel
theorem dX11_day_45 : decode cX11_day 45 = .ok (.iconst 0, 1) := by decide +kernel
theorem dX11_day_46 : decode cX11_day 46 = .ok (.istore 5, 2) := by decide +kernel
theorem dX11_day_48 : decode cX11_day 48 = .ok (.iload 5, 2) := by decide +kernel
theorem dX11_day_50 : decode cX11_day 50 = .ok (.iload_n 1, 1) := by decide +kernel
theorem dX11_day_51 : decode cX11_day 51 = .ok (.if_icmp .ge 47, 3) := by decide +kernel
theorem dX11_day_98 : decode cX11_day 98 = .ok (.iload_n 2, 1) := by decide +kernel
theorem dX11_day_99 : decode cX11_day 99 = .ok (.ifCond .le 14, 3) := by decide +kernel
theorem dX11_day_113 : decode cX11_day 113 = .ok (.aload_n 0, 1) := by decide +kernel
theorem dX11_day_114 : decode cX11_day 114 = .ok (.getfield 81, 3) := by decide +kernel
theorem dX11_day_117 : decode cX11_day 117 = .ok (.iload 4, 2) := by decide +kernel
theorem dX11_day_119 : decode cX11_day 119 = .ok (.ifCond .eq 7, 3) := by decide +kernel
theorem dX11_day_122 : decode cX11_day 122 = .ok (.lconst 0, 1) := by decide +kernel
theorem dX11_day_123 : decode cX11_day 123 = .ok (.goto 4, 3) := by decide +kernel
theorem dX11_day_127 : decode cX11_day 127 = .ok (.iload_n 3, 1) := by decide +kernel
theorem dX11_day_128 : decode cX11_day 128 = .ok (.i2l, 1) := by decide +kernel
theorem dX11_day_129 : decode cX11_day 129 = .ok (.invokevirtual 257, 3) := by decide +kernel
theorem dX11_day_132 : decode cX11_day 132 = .ok (.iload_n 2, 1) := by decide +kernel
theorem dX11_day_133 : decode cX11_day 133 = .ok (.ireturn, 1) := by decide +kernel
theorem dX11_duel_0 : decode cX11_duel 0 = .ok (.aload_n 0, 1) := by decide +kernel
theorem dX11_duel_1 : decode cX11_duel 1 = .ok (.getfield 19, 3) := by decide +kernel
theorem dX11_duel_4 : decode cX11_duel 4 = .ok (.iload_n 1, 1) := by decide +kernel
theorem dX11_duel_5 : decode cX11_duel 5 = .ok (.invokevirtual 137, 3) := by decide +kernel
theorem dX11_duel_8 : decode cX11_duel 8 = .ok (.ifCond .eq 34, 3) := by decide +kernel
theorem dX11_duel_42 : decode cX11_duel 42 = .ok (.iconst (-1), 1) := by decide +kernel
theorem dX11_duel_43 : decode cX11_duel 43 = .ok (.ireturn, 1) := by decide +kernel
theorem dX11_end_0 : decode cX11_end 0 = .ok (.aload_n 0, 1) := by decide +kernel
theorem dX11_end_1 : decode cX11_end 1 = .ok (.getfield 12, 3) := by decide +kernel
theorem dX11_end_4 : decode cX11_end 4 = .ok (.iload_n 1, 1) := by decide +kernel
theorem dX11_end_5 : decode cX11_end 5 = .ok (.invokevirtual 111, 3) := by decide +kernel
theorem dX11_end_8 : decode cX11_end 8 = .ok (.ireturn, 1) := by decide +kernel
theorem dX11_fewestTurns_0 : decode cX11_fewestTurns 0 = .ok (.aload_n 0, 1) := by decide +kernel
theorem dX11_fewestTurns_1 : decode cX11_fewestTurns 1 = .ok (.getfield 99, 3) := by decide +kernel
theorem dX11_fewestTurns_4 : decode cX11_fewestTurns 4 = .ok (.invokevirtual 350, 3) := by decide +kernel
theorem dX11_fewestTurns_7 : decode cX11_fewestTurns 7 = .ok (.bipush 13, 2) := by decide +kernel
theorem dX11_fewestTurns_9 : decode cX11_fewestTurns 9 = .ok (.istore_n 2, 1) := by decide +kernel
theorem dX11_fewestTurns_10 : decode cX11_fewestTurns 10 = .ok (.iconst (-1), 1) := by decide +kernel
theorem dX11_fewestTurns_11 : decode cX11_fewestTurns 11 = .ok (.istore_n 3, 1) := by decide +kernel
theorem dX11_fewestTurns_12 : decode cX11_fewestTurns 12 = .ok (.iconst 0, 1) := by decide +kernel
theorem dX11_fewestTurns_13 : decode cX11_fewestTurns 13 = .ok (.istore 4, 2) := by decide +kernel
theorem dX11_fewestTurns_15 : decode cX11_fewestTurns 15 = .ok (.iconst 0, 1) := by decide +kernel
theorem dX11_fewestTurns_16 : decode cX11_fewestTurns 16 = .ok (.istore 5, 2) := by decide +kernel
theorem dX11_fewestTurns_18 : decode cX11_fewestTurns 18 = .ok (.iconst 0, 1) := by decide +kernel
theorem dX11_fewestTurns_19 : decode cX11_fewestTurns 19 = .ok (.istore 6, 2) := by decide +kernel
theorem dX11_fewestTurns_21 : decode cX11_fewestTurns 21 = .ok (.iload 6, 2) := by decide +kernel
theorem dX11_fewestTurns_23 : decode cX11_fewestTurns 23 = .ok (.aload_n 0, 1) := by decide +kernel
theorem dX11_fewestTurns_24 : decode cX11_fewestTurns 24 = .ok (.getfield 19, 3) := by decide +kernel
theorem dX11_fewestTurns_27 : decode cX11_fewestTurns 27 = .ok (.getfield 353, 3) := by decide +kernel
theorem dX11_fewestTurns_30 : decode cX11_fewestTurns 30 = .ok (.if_icmp .ge 89, 3) := by decide +kernel
theorem dX11_fewestTurns_33 : decode cX11_fewestTurns 33 = .ok (.iload 5, 2) := by decide +kernel
theorem dX11_fewestTurns_35 : decode cX11_fewestTurns 35 = .ok (.invokestatic 261, 3) := by decide +kernel
theorem dX11_fewestTurns_38 : decode cX11_fewestTurns 38 = .ok (.istore 7, 2) := by decide +kernel
theorem dX11_fewestTurns_40 : decode cX11_fewestTurns 40 = .ok (.iload 7, 2) := by decide +kernel
theorem dX11_fewestTurns_42 : decode cX11_fewestTurns 42 = .ok (.iload_n 2, 1) := by decide +kernel
theorem dX11_fewestTurns_43 : decode cX11_fewestTurns 43 = .ok (.if_icmp .ge 23, 3) := by decide +kernel
theorem dX11_fewestTurns_46 : decode cX11_fewestTurns 46 = .ok (.aload_n 0, 1) := by decide +kernel
theorem dX11_fewestTurns_47 : decode cX11_fewestTurns 47 = .ok (.getfield 99, 3) := by decide +kernel
theorem dX11_fewestTurns_50 : decode cX11_fewestTurns 50 = .ok (.aload_n 0, 1) := by decide +kernel
theorem dX11_fewestTurns_51 : decode cX11_fewestTurns 51 = .ok (.getfield 53, 3) := by decide +kernel
theorem dX11_fewestTurns_54 : decode cX11_fewestTurns 54 = .ok (.getfield 157, 3) := by decide +kernel
theorem dX11_fewestTurns_57 : decode cX11_fewestTurns 57 = .ok (.iload 5, 2) := by decide +kernel
theorem dX11_fewestTurns_59 : decode cX11_fewestTurns 59 = .ok (.ixor, 1) := by decide +kernel
theorem dX11_fewestTurns_60 : decode cX11_fewestTurns 60 = .ok (.invokevirtual 356, 3) := by decide +kernel
theorem dX11_fewestTurns_63 : decode cX11_fewestTurns 63 = .ok (.goto 4, 3) := by decide +kernel
theorem dX11_fewestTurns_67 : decode cX11_fewestTurns 67 = .ok (.istore 8, 2) := by decide +kernel
theorem dX11_fewestTurns_69 : decode cX11_fewestTurns 69 = .ok (.iload 8, 2) := by decide +kernel
theorem dX11_fewestTurns_71 : decode cX11_fewestTurns 71 = .ok (.iconst (-1), 1) := by decide +kernel
theorem dX11_fewestTurns_72 : decode cX11_fewestTurns 72 = .ok (.if_icmp .eq 30, 3) := by decide +kernel
theorem dX11_fewestTurns_75 : decode cX11_fewestTurns 75 = .ok (.iload_n 1, 1) := by decide +kernel
theorem dX11_fewestTurns_76 : decode cX11_fewestTurns 76 = .ok (.iconst (-1), 1) := by decide +kernel
theorem dX11_fewestTurns_77 : decode cX11_fewestTurns 77 = .ok (.if_icmp .eq 12, 3) := by decide +kernel
theorem dX11_fewestTurns_89 : decode cX11_fewestTurns 89 = .ok (.iload 7, 2) := by decide +kernel
theorem dX11_fewestTurns_91 : decode cX11_fewestTurns 91 = .ok (.istore_n 2, 1) := by decide +kernel
theorem dX11_fewestTurns_92 : decode cX11_fewestTurns 92 = .ok (.iload 5, 2) := by decide +kernel
theorem dX11_fewestTurns_94 : decode cX11_fewestTurns 94 = .ok (.istore_n 3, 1) := by decide +kernel
theorem dX11_fewestTurns_95 : decode cX11_fewestTurns 95 = .ok (.iload 8, 2) := by decide +kernel
theorem dX11_fewestTurns_97 : decode cX11_fewestTurns 97 = .ok (.invokestatic 320, 3) := by decide +kernel
theorem dX11_fewestTurns_100 : decode cX11_fewestTurns 100 = .ok (.istore 4, 2) := by decide +kernel
theorem dX11_fewestTurns_102 : decode cX11_fewestTurns 102 = .ok (.aload_n 0, 1) := by decide +kernel
theorem dX11_fewestTurns_103 : decode cX11_fewestTurns 103 = .ok (.getfield 19, 3) := by decide +kernel
theorem dX11_fewestTurns_106 : decode cX11_fewestTurns 106 = .ok (.iload 5, 2) := by decide +kernel
theorem dX11_fewestTurns_108 : decode cX11_fewestTurns 108 = .ok (.invokevirtual 359, 3) := by decide +kernel
theorem dX11_fewestTurns_111 : decode cX11_fewestTurns 111 = .ok (.istore 5, 2) := by decide +kernel
theorem dX11_fewestTurns_113 : decode cX11_fewestTurns 113 = .ok (.iinc 6 1, 3) := by decide +kernel
theorem dX11_fewestTurns_116 : decode cX11_fewestTurns 116 = .ok (.goto (-95), 3) := by decide +kernel
theorem dX11_fewestTurns_119 : decode cX11_fewestTurns 119 = .ok (.iload_n 3, 1) := by decide +kernel
theorem dX11_fewestTurns_120 : decode cX11_fewestTurns 120 = .ok (.iconst (-1), 1) := by decide +kernel
theorem dX11_fewestTurns_121 : decode cX11_fewestTurns 121 = .ok (.if_icmp .ne 6, 3) := by decide +kernel
theorem dX11_fewestTurns_127 : decode cX11_fewestTurns 127 = .ok (.aload_n 0, 1) := by decide +kernel
theorem dX11_fewestTurns_128 : decode cX11_fewestTurns 128 = .ok (.getfield 81, 3) := by decide +kernel
theorem dX11_fewestTurns_131 : decode cX11_fewestTurns 131 = .ok (.iload_n 3, 1) := by decide +kernel
theorem dX11_fewestTurns_132 : decode cX11_fewestTurns 132 = .ok (.i2l, 1) := by decide +kernel
theorem dX11_fewestTurns_133 : decode cX11_fewestTurns 133 = .ok (.iload 4, 2) := by decide +kernel
theorem dX11_fewestTurns_135 : decode cX11_fewestTurns 135 = .ok (.i2l, 1) := by decide +kernel
theorem dX11_fewestTurns_136 : decode cX11_fewestTurns 136 = .ok (.invokevirtual 257, 3) := by decide +kernel
theorem dX11_fewestTurns_139 : decode cX11_fewestTurns 139 = .ok (.iload_n 2, 1) := by decide +kernel
theorem dX11_fewestTurns_140 : decode cX11_fewestTurns 140 = .ok (.ireturn, 1) := by decide +kernel
theorem dX11_findFits_0 : decode cX11_findFits 0 = .ok (.aload_n 0, 1) := by decide +kernel
theorem dX11_findFits_1 : decode cX11_findFits 1 = .ok (.getfield 99, 3) := by decide +kernel
theorem dX11_findFits_4 : decode cX11_findFits 4 = .ok (.invokevirtual 384, 3) := by decide +kernel
theorem dX11_findFits_7 : decode cX11_findFits 7 = .ok (.iconst 0, 1) := by decide +kernel
theorem dX11_findFits_8 : decode cX11_findFits 8 = .ok (.istore_n 1, 1) := by decide +kernel
theorem dX11_findFits_9 : decode cX11_findFits 9 = .ok (.iload_n 1, 1) := by decide +kernel
theorem dX11_findFits_10 : decode cX11_findFits 10 = .ok (.aload_n 0, 1) := by decide +kernel
theorem dX11_findFits_11 : decode cX11_findFits 11 = .ok (.getfield 74, 3) := by decide +kernel
theorem dX11_findFits_14 : decode cX11_findFits 14 = .ok (.getfield 126, 3) := by decide +kernel
theorem dX11_findFits_17 : decode cX11_findFits 17 = .ok (.if_icmp .ge 119, 3) := by decide +kernel
theorem dX11_findFits_136 : decode cX11_findFits 136 = .ok (.return_, 1) := by decide +kernel
theorem dX11_flow_0 : decode cX11_flow 0 = .ok (.iload_n 1, 1) := by decide +kernel
theorem dX11_flow_1 : decode cX11_flow 1 = .ok (.ifCond .lt 21, 3) := by decide +kernel
theorem dX11_flow_4 : decode cX11_flow 4 = .ok (.iload_n 1, 1) := by decide +kernel
theorem dX11_flow_5 : decode cX11_flow 5 = .ok (.sipush 9999, 3) := by decide +kernel
theorem dX11_flow_8 : decode cX11_flow 8 = .ok (.if_icmp .gt 14, 3) := by decide +kernel
theorem dX11_flow_11 : decode cX11_flow 11 = .ok (.aload_n 0, 1) := by decide +kernel
theorem dX11_flow_12 : decode cX11_flow 12 = .ok (.getfield 29, 3) := by decide +kernel
theorem dX11_flow_15 : decode cX11_flow 15 = .ok (.iload_n 1, 1) := by decide +kernel
theorem dX11_flow_16 : decode cX11_flow 16 = .ok (.invokevirtual 198, 3) := by decide +kernel
theorem dX11_flow_19 : decode cX11_flow 19 = .ok (.goto 4, 3) := by decide +kernel
theorem dX11_flow_22 : decode cX11_flow 22 = .ok (.iconst (-1), 1) := by decide +kernel
theorem dX11_flow_23 : decode cX11_flow 23 = .ok (.ireturn, 1) := by decide +kernel
theorem dX11_forget_0 : decode cX11_forget 0 = .ok (.aload_n 0, 1) := by decide +kernel
theorem dX11_forget_1 : decode cX11_forget 1 = .ok (.getfield 74, 3) := by decide +kernel
theorem dX11_forget_4 : decode cX11_forget 4 = .ok (.getfield 126, 3) := by decide +kernel
theorem dX11_forget_7 : decode cX11_forget 7 = .ok (.istore_n 1, 1) := by decide +kernel
theorem dX11_forget_8 : decode cX11_forget 8 = .ok (.aload_n 0, 1) := by decide +kernel
theorem dX11_forget_9 : decode cX11_forget 9 = .ok (.getfield 74, 3) := by decide +kernel
theorem dX11_forget_12 : decode cX11_forget 12 = .ok (.iconst 0, 1) := by decide +kernel
theorem dX11_forget_13 : decode cX11_forget 13 = .ok (.putfield 126, 3) := by decide +kernel
theorem dX11_forget_16 : decode cX11_forget 16 = .ok (.iload_n 1, 1) := by decide +kernel
theorem dX11_forget_17 : decode cX11_forget 17 = .ok (.ireturn, 1) := by decide +kernel
theorem dX11_give_0 : decode cX11_give 0 = .ok (.aload_n 0, 1) := by decide +kernel
theorem dX11_give_1 : decode cX11_give 1 = .ok (.getfield 53, 3) := by decide +kernel
theorem dX11_give_4 : decode cX11_give 4 = .ok (.iload_n 1, 1) := by decide +kernel
theorem dX11_give_5 : decode cX11_give 5 = .ok (.invokevirtual 241, 3) := by decide +kernel
theorem dX11_give_8 : decode cX11_give 8 = .ok (.ifCond .eq 14, 3) := by decide +kernel
theorem dX11_give_22 : decode cX11_give 22 = .ok (.iconst (-1), 1) := by decide +kernel
theorem dX11_give_23 : decode cX11_give 23 = .ok (.ireturn, 1) := by decide +kernel
theorem dX11_homes_0 : decode cX11_homes 0 = .ok (.iload_n 1, 1) := by decide +kernel
theorem dX11_homes_1 : decode cX11_homes 1 = .ok (.invokestatic 290, 3) := by decide +kernel
theorem dX11_homes_4 : decode cX11_homes 4 = .ok (.ifCond .ne 5, 3) := by decide +kernel
theorem dX11_homes_7 : decode cX11_homes 7 = .ok (.iconst (-1), 1) := by decide +kernel
theorem dX11_homes_8 : decode cX11_homes 8 = .ok (.ireturn, 1) := by decide +kernel
theorem dX11_homes_9 : decode cX11_homes 9 = .ok (.aload_n 0, 1) := by decide +kernel
theorem dX11_homes_10 : decode cX11_homes 10 = .ok (.getfield 99, 3) := by decide +kernel
theorem dX11_homes_13 : decode cX11_homes 13 = .ok (.aload_n 0, 1) := by decide +kernel
theorem dX11_homes_14 : decode cX11_homes 14 = .ok (.getfield 53, 3) := by decide +kernel
theorem dX11_homes_17 : decode cX11_homes 17 = .ok (.iload_n 1, 1) := by decide +kernel
theorem dX11_homes_18 : decode cX11_homes 18 = .ok (.invokevirtual 293, 3) := by decide +kernel
theorem dX11_homes_21 : decode cX11_homes 21 = .ok (.aload_n 0, 1) := by decide +kernel
theorem dX11_homes_22 : decode cX11_homes 22 = .ok (.getfield 81, 3) := by decide +kernel
theorem dX11_homes_25 : decode cX11_homes 25 = .ok (.aload_n 0, 1) := by decide +kernel
theorem dX11_homes_26 : decode cX11_homes 26 = .ok (.getfield 99, 3) := by decide +kernel
theorem dX11_homes_29 : decode cX11_homes 29 = .ok (.getfield 297, 3) := by decide +kernel
theorem dX11_homes_32 : decode cX11_homes 32 = .ok (.getfield 250, 3) := by decide +kernel
theorem dX11_homes_35 : decode cX11_homes 35 = .ok (.i2l, 1) := by decide +kernel
theorem dX11_homes_36 : decode cX11_homes 36 = .ok (.aload_n 0, 1) := by decide +kernel
theorem dX11_homes_37 : decode cX11_homes 37 = .ok (.getfield 99, 3) := by decide +kernel
theorem dX11_homes_40 : decode cX11_homes 40 = .ok (.getfield 297, 3) := by decide +kernel
theorem dX11_homes_43 : decode cX11_homes 43 = .ok (.invokevirtual 166, 3) := by decide +kernel
theorem dX11_homes_46 : decode cX11_homes 46 = .ok (.i2l, 1) := by decide +kernel
theorem dX11_homes_47 : decode cX11_homes 47 = .ok (.invokevirtual 257, 3) := by decide +kernel
theorem dX11_homes_50 : decode cX11_homes 50 = .ok (.aload_n 0, 1) := by decide +kernel
theorem dX11_homes_51 : decode cX11_homes 51 = .ok (.getfield 99, 3) := by decide +kernel
theorem dX11_homes_54 : decode cX11_homes 54 = .ok (.getfield 297, 3) := by decide +kernel
theorem dX11_homes_57 : decode cX11_homes 57 = .ok (.getfield 247, 3) := by decide +kernel
theorem dX11_homes_60 : decode cX11_homes 60 = .ok (.ireturn, 1) := by decide +kernel
theorem dX11_isAhead_0 : decode cX11_isAhead 0 = .ok (.iload_n 0, 1) := by decide +kernel
theorem dX11_isAhead_1 : decode cX11_isAhead 1 = .ok (.ifCond .lt 14, 3) := by decide +kernel
theorem dX11_isAhead_4 : decode cX11_isAhead 4 = .ok (.iload_n 0, 1) := by decide +kernel
theorem dX11_isAhead_5 : decode cX11_isAhead 5 = .ok (.sipush 300, 3) := by decide +kernel
theorem dX11_isAhead_8 : decode cX11_isAhead 8 = .ok (.if_icmp .gt 7, 3) := by decide +kernel
theorem dX11_isAhead_11 : decode cX11_isAhead 11 = .ok (.iconst 1, 1) := by decide +kernel
theorem dX11_isAhead_12 : decode cX11_isAhead 12 = .ok (.goto 4, 3) := by decide +kernel
theorem dX11_isAhead_15 : decode cX11_isAhead 15 = .ok (.iconst 0, 1) := by decide +kernel
theorem dX11_isAhead_16 : decode cX11_isAhead 16 = .ok (.ireturn, 1) := by decide +kernel
theorem dX11_isLoad_0 : decode cX11_isLoad 0 = .ok (.iload_n 0, 1) := by decide +kernel
theorem dX11_isLoad_1 : decode cX11_isLoad 1 = .ok (.ifCond .lt 23, 3) := by decide +kernel
theorem dX11_isLoad_4 : decode cX11_isLoad 4 = .ok (.iload_n 0, 1) := by decide +kernel
theorem dX11_isLoad_5 : decode cX11_isLoad 5 = .ok (.bipush 99, 2) := by decide +kernel
theorem dX11_isLoad_7 : decode cX11_isLoad 7 = .ok (.if_icmp .gt 17, 3) := by decide +kernel
theorem dX11_isLoad_10 : decode cX11_isLoad 10 = .ok (.iload_n 1, 1) := by decide +kernel
theorem dX11_isLoad_11 : decode cX11_isLoad 11 = .ok (.ifCond .lt 13, 3) := by decide +kernel
theorem dX11_isLoad_14 : decode cX11_isLoad 14 = .ok (.iload_n 1, 1) := by decide +kernel
theorem dX11_isLoad_15 : decode cX11_isLoad 15 = .ok (.bipush 9, 2) := by decide +kernel
theorem dX11_isLoad_17 : decode cX11_isLoad 17 = .ok (.if_icmp .gt 7, 3) := by decide +kernel
theorem dX11_isLoad_20 : decode cX11_isLoad 20 = .ok (.iconst 1, 1) := by decide +kernel
theorem dX11_isLoad_21 : decode cX11_isLoad 21 = .ok (.goto 4, 3) := by decide +kernel
theorem dX11_isLoad_24 : decode cX11_isLoad 24 = .ok (.iconst 0, 1) := by decide +kernel
theorem dX11_isLoad_25 : decode cX11_isLoad 25 = .ok (.ireturn, 1) := by decide +kernel
theorem dX11_keep_0 : decode cX11_keep 0 = .ok (.iload_n 1, 1) := by decide +kernel
theorem dX11_keep_1 : decode cX11_keep 1 = .ok (.ifCond .lt 8, 3) := by decide +kernel
theorem dX11_keep_4 : decode cX11_keep 4 = .ok (.iload_n 1, 1) := by decide +kernel
theorem dX11_keep_5 : decode cX11_keep 5 = .ok (.iconst 3, 1) := by decide +kernel
theorem dX11_keep_6 : decode cX11_keep 6 = .ok (.if_icmp .lt 5, 3) := by decide +kernel
theorem dX11_keep_9 : decode cX11_keep 9 = .ok (.iconst 0, 1) := by decide +kernel
theorem dX11_keep_10 : decode cX11_keep 10 = .ok (.ireturn, 1) := by decide +kernel
theorem dX11_keep_11 : decode cX11_keep 11 = .ok (.aload_n 0, 1) := by decide +kernel
theorem dX11_keep_12 : decode cX11_keep 12 = .ok (.getfield 67, 3) := by decide +kernel
theorem dX11_keep_15 : decode cX11_keep 15 = .ok (.iload_n 1, 1) := by decide +kernel
theorem dX11_keep_16 : decode cX11_keep 16 = .ok (.aaload, 1) := by decide +kernel
theorem dX11_keep_17 : decode cX11_keep 17 = .ok (.aload_n 0, 1) := by decide +kernel
theorem dX11_keep_18 : decode cX11_keep 18 = .ok (.getfield 53, 3) := by decide +kernel
theorem dX11_keep_21 : decode cX11_keep 21 = .ok (.invokevirtual 270, 3) := by decide +kernel
theorem dX11_keep_24 : decode cX11_keep 24 = .ok (.aload_n 0, 1) := by decide +kernel
theorem dX11_keep_25 : decode cX11_keep 25 = .ok (.dup, 1) := by decide +kernel
theorem dX11_keep_26 : decode cX11_keep 26 = .ok (.getfield 129, 3) := by decide +kernel
theorem dX11_keep_29 : decode cX11_keep 29 = .ok (.iconst 1, 1) := by decide +kernel
theorem dX11_keep_30 : decode cX11_keep 30 = .ok (.iload_n 1, 1) := by decide +kernel
theorem dX11_keep_31 : decode cX11_keep 31 = .ok (.ishl, 1) := by decide +kernel
theorem dX11_keep_32 : decode cX11_keep 32 = .ok (.ior, 1) := by decide +kernel
theorem dX11_keep_33 : decode cX11_keep 33 = .ok (.putfield 129, 3) := by decide +kernel
theorem dX11_keep_36 : decode cX11_keep 36 = .ok (.iconst 1, 1) := by decide +kernel
theorem dX11_keep_37 : decode cX11_keep 37 = .ok (.ireturn, 1) := by decide +kernel
theorem dX11_lost_0 : decode cX11_lost 0 = .ok (.iload_n 1, 1) := by decide +kernel
theorem dX11_lost_1 : decode cX11_lost 1 = .ok (.invokestatic 290, 3) := by decide +kernel
theorem dX11_lost_4 : decode cX11_lost 4 = .ok (.ifCond .ne 5, 3) := by decide +kernel
theorem dX11_lost_7 : decode cX11_lost 7 = .ok (.iconst (-1), 1) := by decide +kernel
theorem dX11_lost_8 : decode cX11_lost 8 = .ok (.ireturn, 1) := by decide +kernel
theorem dX11_lost_9 : decode cX11_lost 9 = .ok (.aload_n 0, 1) := by decide +kernel
theorem dX11_lost_10 : decode cX11_lost 10 = .ok (.getfield 99, 3) := by decide +kernel
theorem dX11_lost_13 : decode cX11_lost 13 = .ok (.getfield 297, 3) := by decide +kernel
theorem dX11_lost_16 : decode cX11_lost 16 = .ok (.astore_n 2, 1) := by decide +kernel
theorem dX11_lost_17 : decode cX11_lost 17 = .ok (.aload_n 2, 1) := by decide +kernel
theorem dX11_lost_18 : decode cX11_lost 18 = .ok (.aload_n 0, 1) := by decide +kernel
theorem dX11_lost_19 : decode cX11_lost 19 = .ok (.getfield 53, 3) := by decide +kernel
theorem dX11_lost_22 : decode cX11_lost 22 = .ok (.invokevirtual 270, 3) := by decide +kernel
theorem dX11_lost_25 : decode cX11_lost 25 = .ok (.iconst 1, 1) := by decide +kernel
theorem dX11_lost_26 : decode cX11_lost 26 = .ok (.istore_n 3, 1) := by decide +kernel
theorem dX11_lost_27 : decode cX11_lost 27 = .ok (.iload_n 3, 1) := by decide +kernel
theorem dX11_lost_28 : decode cX11_lost 28 = .ok (.iload_n 1, 1) := by decide +kernel
theorem dX11_lost_29 : decode cX11_lost 29 = .ok (.if_icmp .gt 71, 3) := by decide +kernel
theorem dX11_lost_32 : decode cX11_lost 32 = .ok (.aload_n 2, 1) := by decide +kernel
theorem dX11_lost_33 : decode cX11_lost 33 = .ok (.invokevirtual 166, 3) := by decide +kernel
theorem dX11_lost_36 : decode cX11_lost 36 = .ok (.ifCond .eq 64, 3) := by decide +kernel
theorem dX11_lost_100 : decode cX11_lost 100 = .ok (.bipush (-2), 2) := by decide +kernel
theorem dX11_lost_102 : decode cX11_lost 102 = .ok (.ireturn, 1) := by decide +kernel
theorem dX11_maps_0 : decode cX11_maps 0 = .ok (.aload_n 0, 1) := by decide +kernel
theorem dX11_maps_1 : decode cX11_maps 1 = .ok (.invokevirtual 372, 3) := by decide +kernel
theorem dX11_maps_4 : decode cX11_maps 4 = .ok (.iconst 0, 1) := by decide +kernel
theorem dX11_maps_5 : decode cX11_maps 5 = .ok (.istore_n 1, 1) := by decide +kernel
theorem dX11_maps_6 : decode cX11_maps 6 = .ok (.iconst (-1), 1) := by decide +kernel
theorem dX11_maps_7 : decode cX11_maps 7 = .ok (.istore_n 2, 1) := by decide +kernel
theorem dX11_maps_8 : decode cX11_maps 8 = .ok (.aload_n 0, 1) := by decide +kernel
theorem dX11_maps_9 : decode cX11_maps 9 = .ok (.getfield 19, 3) := by decide +kernel
theorem dX11_maps_12 : decode cX11_maps 12 = .ok (.getfield 375, 3) := by decide +kernel
theorem dX11_maps_15 : decode cX11_maps 15 = .ok (.istore_n 3, 1) := by decide +kernel
theorem dX11_maps_16 : decode cX11_maps 16 = .ok (.aload_n 0, 1) := by decide +kernel
theorem dX11_maps_17 : decode cX11_maps 17 = .ok (.getfield 19, 3) := by decide +kernel
theorem dX11_maps_20 : decode cX11_maps 20 = .ok (.getfield 375, 3) := by decide +kernel
theorem dX11_maps_23 : decode cX11_maps 23 = .ok (.istore 4, 2) := by decide +kernel
theorem dX11_maps_25 : decode cX11_maps 25 = .ok (.iconst 0, 1) := by decide +kernel
theorem dX11_maps_26 : decode cX11_maps 26 = .ok (.istore 5, 2) := by decide +kernel
theorem dX11_maps_28 : decode cX11_maps 28 = .ok (.iconst 0, 1) := by decide +kernel
theorem dX11_maps_29 : decode cX11_maps 29 = .ok (.istore 6, 2) := by decide +kernel
theorem dX11_maps_31 : decode cX11_maps 31 = .ok (.iload 6, 2) := by decide +kernel
theorem dX11_maps_33 : decode cX11_maps 33 = .ok (.aload_n 0, 1) := by decide +kernel
theorem dX11_maps_34 : decode cX11_maps 34 = .ok (.getfield 19, 3) := by decide +kernel
theorem dX11_maps_37 : decode cX11_maps 37 = .ok (.getfield 353, 3) := by decide +kernel
theorem dX11_maps_40 : decode cX11_maps 40 = .ok (.if_icmp .ge 61, 3) := by decide +kernel
theorem dX11_maps_43 : decode cX11_maps 43 = .ok (.aload_n 0, 1) := by decide +kernel
theorem dX11_maps_44 : decode cX11_maps 44 = .ok (.getfield 99, 3) := by decide +kernel
theorem dX11_maps_47 : decode cX11_maps 47 = .ok (.iload 5, 2) := by decide +kernel
theorem dX11_maps_49 : decode cX11_maps 49 = .ok (.invokevirtual 378, 3) := by decide +kernel
theorem dX11_maps_52 : decode cX11_maps 52 = .ok (.ifCond .eq 32, 3) := by decide +kernel
theorem dX11_maps_55 : decode cX11_maps 55 = .ok (.iinc 1 1, 3) := by decide +kernel
theorem dX11_maps_58 : decode cX11_maps 58 = .ok (.iload_n 2, 1) := by decide +kernel
theorem dX11_maps_59 : decode cX11_maps 59 = .ok (.iconst (-1), 1) := by decide +kernel
theorem dX11_maps_60 : decode cX11_maps 60 = .ok (.if_icmp .ne 8, 3) := by decide +kernel
theorem dX11_maps_63 : decode cX11_maps 63 = .ok (.iload 5, 2) := by decide +kernel
theorem dX11_maps_65 : decode cX11_maps 65 = .ok (.goto 4, 3) := by decide +kernel
theorem dX11_maps_69 : decode cX11_maps 69 = .ok (.istore_n 2, 1) := by decide +kernel
theorem dX11_maps_70 : decode cX11_maps 70 = .ok (.iload_n 3, 1) := by decide +kernel
theorem dX11_maps_71 : decode cX11_maps 71 = .ok (.iload 5, 2) := by decide +kernel
theorem dX11_maps_73 : decode cX11_maps 73 = .ok (.iand, 1) := by decide +kernel
theorem dX11_maps_74 : decode cX11_maps 74 = .ok (.istore_n 3, 1) := by decide +kernel
theorem dX11_maps_75 : decode cX11_maps 75 = .ok (.iload 4, 2) := by decide +kernel
theorem dX11_maps_77 : decode cX11_maps 77 = .ok (.iload 5, 2) := by decide +kernel
theorem dX11_maps_79 : decode cX11_maps 79 = .ok (.iconst (-1), 1) := by decide +kernel
theorem dX11_maps_80 : decode cX11_maps 80 = .ok (.ixor, 1) := by decide +kernel
theorem dX11_maps_81 : decode cX11_maps 81 = .ok (.iand, 1) := by decide +kernel
theorem dX11_maps_82 : decode cX11_maps 82 = .ok (.istore 4, 2) := by decide +kernel
theorem dX11_maps_84 : decode cX11_maps 84 = .ok (.aload_n 0, 1) := by decide +kernel
theorem dX11_maps_85 : decode cX11_maps 85 = .ok (.getfield 19, 3) := by decide +kernel
theorem dX11_maps_88 : decode cX11_maps 88 = .ok (.iload 5, 2) := by decide +kernel
theorem dX11_maps_90 : decode cX11_maps 90 = .ok (.invokevirtual 359, 3) := by decide +kernel
theorem dX11_maps_93 : decode cX11_maps 93 = .ok (.istore 5, 2) := by decide +kernel
theorem dX11_maps_95 : decode cX11_maps 95 = .ok (.iinc 6 1, 3) := by decide +kernel
theorem dX11_maps_98 : decode cX11_maps 98 = .ok (.goto (-67), 3) := by decide +kernel
theorem dX11_maps_101 : decode cX11_maps 101 = .ok (.aload_n 0, 1) := by decide +kernel
theorem dX11_maps_102 : decode cX11_maps 102 = .ok (.getfield 81, 3) := by decide +kernel
theorem dX11_maps_105 : decode cX11_maps 105 = .ok (.iload_n 2, 1) := by decide +kernel
theorem dX11_maps_106 : decode cX11_maps 106 = .ok (.i2l, 1) := by decide +kernel
theorem dX11_maps_107 : decode cX11_maps 107 = .ok (.iload_n 3, 1) := by decide +kernel
theorem dX11_maps_108 : decode cX11_maps 108 = .ok (.i2l, 1) := by decide +kernel
theorem dX11_maps_109 : decode cX11_maps 109 = .ok (.iload 4, 2) := by decide +kernel
theorem dX11_maps_111 : decode cX11_maps 111 = .ok (.i2l, 1) := by decide +kernel
theorem dX11_maps_112 : decode cX11_maps 112 = .ok (.invokevirtual 300, 3) := by decide +kernel
theorem dX11_maps_115 : decode cX11_maps 115 = .ok (.iload_n 1, 1) := by decide +kernel
theorem dX11_maps_116 : decode cX11_maps 116 = .ok (.ireturn, 1) := by decide +kernel
theorem dX11_marks_0 : decode cX11_marks 0 = .ok (.iload_n 1, 1) := by decide +kernel
theorem dX11_marks_1 : decode cX11_marks 1 = .ok (.iload_n 2, 1) := by decide +kernel
theorem dX11_marks_2 : decode cX11_marks 2 = .ok (.invokestatic 227, 3) := by decide +kernel
theorem dX11_marks_5 : decode cX11_marks 5 = .ok (.ifCond .eq 14, 3) := by decide +kernel
theorem dX11_marks_8 : decode cX11_marks 8 = .ok (.iload_n 3, 1) := by decide +kernel
theorem dX11_marks_9 : decode cX11_marks 9 = .ok (.ifCond .lt 10, 3) := by decide +kernel
theorem dX11_marks_12 : decode cX11_marks 12 = .ok (.iload_n 3, 1) := by decide +kernel
theorem dX11_marks_13 : decode cX11_marks 13 = .ok (.sipush 4096, 3) := by decide +kernel
theorem dX11_marks_16 : decode cX11_marks 16 = .ok (.if_icmp .lt 5, 3) := by decide +kernel
theorem dX11_marks_19 : decode cX11_marks 19 = .ok (.iconst (-1), 1) := by decide +kernel
theorem dX11_marks_20 : decode cX11_marks 20 = .ok (.ireturn, 1) := by decide +kernel
theorem dX11_marks_21 : decode cX11_marks 21 = .ok (.iconst 0, 1) := by decide +kernel
theorem dX11_marks_22 : decode cX11_marks 22 = .ok (.istore 4, 2) := by decide +kernel
theorem dX11_marks_24 : decode cX11_marks 24 = .ok (.iconst 0, 1) := by decide +kernel
theorem dX11_marks_25 : decode cX11_marks 25 = .ok (.istore 5, 2) := by decide +kernel
theorem dX11_marks_27 : decode cX11_marks 27 = .ok (.iconst (-1), 1) := by decide +kernel
theorem dX11_marks_28 : decode cX11_marks 28 = .ok (.istore 6, 2) := by decide +kernel
theorem dX11_marks_30 : decode cX11_marks 30 = .ok (.iconst 0, 1) := by decide +kernel
theorem dX11_marks_31 : decode cX11_marks 31 = .ok (.istore 7, 2) := by decide +kernel
theorem dX11_marks_33 : decode cX11_marks 33 = .ok (.iload 7, 2) := by decide +kernel
theorem dX11_marks_35 : decode cX11_marks 35 = .ok (.aload_n 0, 1) := by decide +kernel
theorem dX11_marks_36 : decode cX11_marks 36 = .ok (.getfield 19, 3) := by decide +kernel
theorem dX11_marks_39 : decode cX11_marks 39 = .ok (.getfield 323, 3) := by decide +kernel
theorem dX11_marks_42 : decode cX11_marks 42 = .ok (.if_icmp .ge 84, 3) := by decide +kernel
theorem dX11_marks_126 : decode cX11_marks 126 = .ok (.iload 4, 2) := by decide +kernel
theorem dX11_marks_128 : decode cX11_marks 128 = .ok (.ifCond .ne 14, 3) := by decide +kernel
theorem dX11_marks_131 : decode cX11_marks 131 = .ok (.aload_n 0, 1) := by decide +kernel
theorem dX11_marks_132 : decode cX11_marks 132 = .ok (.getfield 81, 3) := by decide +kernel
theorem dX11_marks_135 : decode cX11_marks 135 = .ok (.lconst 0, 1) := by decide +kernel
theorem dX11_marks_136 : decode cX11_marks 136 = .ok (.invokevirtual 307, 3) := by decide +kernel
theorem dX11_marks_139 : decode cX11_marks 139 = .ok (.goto 22, 3) := by decide +kernel
theorem dX11_marks_161 : decode cX11_marks 161 = .ok (.iload 4, 2) := by decide +kernel
theorem dX11_marks_163 : decode cX11_marks 163 = .ok (.ireturn, 1) := by decide +kernel
theorem dX11_minutesOf_0 : decode cX11_minutesOf 0 = .ok (.iload_n 0, 1) := by decide +kernel
theorem dX11_minutesOf_1 : decode cX11_minutesOf 1 = .ok (.bipush 16, 2) := by decide +kernel
theorem dX11_minutesOf_3 : decode cX11_minutesOf 3 = .ok (.idiv, 1) := by decide +kernel
theorem dX11_minutesOf_4 : decode cX11_minutesOf 4 = .ok (.ireturn, 1) := by decide +kernel
theorem dX11_next_0 : decode cX11_next 0 = .ok (.aload_n 0, 1) := by decide +kernel
theorem dX11_next_1 : decode cX11_next 1 = .ok (.getfield 19, 3) := by decide +kernel
theorem dX11_next_4 : decode cX11_next 4 = .ok (.getfield 323, 3) := by decide +kernel
theorem dX11_next_7 : decode cX11_next 7 = .ok (.ifCond .eq 10, 3) := by decide +kernel
theorem dX11_next_17 : decode cX11_next 17 = .ok (.iconst (-1), 1) := by decide +kernel
theorem dX11_next_18 : decode cX11_next 18 = .ok (.ireturn, 1) := by decide +kernel
theorem dX11_odds_0 : decode cX11_odds 0 = .ok (.aload_n 0, 1) := by decide +kernel
theorem dX11_odds_1 : decode cX11_odds 1 = .ok (.getfield 53, 3) := by decide +kernel
theorem dX11_odds_4 : decode cX11_odds 4 = .ok (.iload_n 1, 1) := by decide +kernel
theorem dX11_odds_5 : decode cX11_odds 5 = .ok (.invokevirtual 172, 3) := by decide +kernel
theorem dX11_odds_8 : decode cX11_odds 8 = .ok (.ifCond .eq 23, 3) := by decide +kernel
theorem dX11_odds_31 : decode cX11_odds 31 = .ok (.iconst (-1), 1) := by decide +kernel
theorem dX11_odds_32 : decode cX11_odds 32 = .ok (.ireturn, 1) := by decide +kernel
theorem dX11_order_0 : decode cX11_order 0 = .ok (.iload_n 1, 1) := by decide +kernel
theorem dX11_order_1 : decode cX11_order 1 = .ok (.iload_n 2, 1) := by decide +kernel
theorem dX11_order_2 : decode cX11_order 2 = .ok (.if_icmp .eq 25, 3) := by decide +kernel
theorem dX11_order_5 : decode cX11_order 5 = .ok (.aload_n 0, 1) := by decide +kernel
theorem dX11_order_6 : decode cX11_order 6 = .ok (.getfield 53, 3) := by decide +kernel
theorem dX11_order_9 : decode cX11_order 9 = .ok (.iload_n 1, 1) := by decide +kernel
theorem dX11_order_10 : decode cX11_order 10 = .ok (.invokevirtual 241, 3) := by decide +kernel
theorem dX11_order_13 : decode cX11_order 13 = .ok (.ifCond .eq 14, 3) := by decide +kernel
theorem dX11_order_27 : decode cX11_order 27 = .ok (.iconst (-1), 1) := by decide +kernel
theorem dX11_order_28 : decode cX11_order 28 = .ok (.ireturn, 1) := by decide +kernel
theorem dX11_passMinutes_0 : decode cX11_passMinutes 0 = .ok (.iconst 0, 1) := by decide +kernel
theorem dX11_passMinutes_1 : decode cX11_passMinutes 1 = .ok (.istore_n 2, 1) := by decide +kernel
theorem dX11_passMinutes_2 : decode cX11_passMinutes 2 = .ok (.iload_n 2, 1) := by decide +kernel
theorem dX11_passMinutes_3 : decode cX11_passMinutes 3 = .ok (.iload_n 1, 1) := by decide +kernel
theorem dX11_passMinutes_4 : decode cX11_passMinutes 4 = .ok (.if_icmp .ge 20, 3) := by decide +kernel
theorem dX11_passMinutes_7 : decode cX11_passMinutes 7 = .ok (.aload_n 0, 1) := by decide +kernel
theorem dX11_passMinutes_8 : decode cX11_passMinutes 8 = .ok (.getfield 90, 3) := by decide +kernel
theorem dX11_passMinutes_11 : decode cX11_passMinutes 11 = .ok (.aload_n 0, 1) := by decide +kernel
theorem dX11_passMinutes_12 : decode cX11_passMinutes 12 = .ok (.getfield 53, 3) := by decide +kernel
theorem dX11_passMinutes_15 : decode cX11_passMinutes 15 = .ok (.invokevirtual 266, 3) := by decide +kernel
theorem dX11_passMinutes_18 : decode cX11_passMinutes 18 = .ok (.iinc 2 1, 3) := by decide +kernel
theorem dX11_passMinutes_21 : decode cX11_passMinutes 21 = .ok (.goto (-19), 3) := by decide +kernel
theorem dX11_passMinutes_24 : decode cX11_passMinutes 24 = .ok (.return_, 1) := by decide +kernel
theorem dX11_plank_0 : decode cX11_plank 0 = .ok (.aload_n 0, 1) := by decide +kernel
theorem dX11_plank_1 : decode cX11_plank 1 = .ok (.getfield 19, 3) := by decide +kernel
theorem dX11_plank_4 : decode cX11_plank 4 = .ok (.iload_n 1, 1) := by decide +kernel
theorem dX11_plank_5 : decode cX11_plank 5 = .ok (.invokevirtual 201, 3) := by decide +kernel
theorem dX11_plank_8 : decode cX11_plank 8 = .ok (.ifCond .eq 12, 3) := by decide +kernel
theorem dX11_plank_20 : decode cX11_plank 20 = .ok (.iconst 0, 1) := by decide +kernel
theorem dX11_plank_21 : decode cX11_plank 21 = .ok (.ireturn, 1) := by decide +kernel
theorem dX11_put_0 : decode cX11_put 0 = .ok (.aload_n 0, 1) := by decide +kernel
theorem dX11_put_1 : decode cX11_put 1 = .ok (.getfield 19, 3) := by decide +kernel
theorem dX11_put_4 : decode cX11_put 4 = .ok (.iload_n 1, 1) := by decide +kernel
theorem dX11_put_5 : decode cX11_put 5 = .ok (.invokevirtual 137, 3) := by decide +kernel
theorem dX11_put_8 : decode cX11_put 8 = .ok (.ifCond .eq 19, 3) := by decide +kernel
theorem dX11_put_27 : decode cX11_put 27 = .ok (.iconst (-1), 1) := by decide +kernel
theorem dX11_put_28 : decode cX11_put 28 = .ok (.ireturn, 1) := by decide +kernel
theorem dX11_round_0 : decode cX11_round 0 = .ok (.aload_n 0, 1) := by decide +kernel
theorem dX11_round_1 : decode cX11_round 1 = .ok (.getfield 19, 3) := by decide +kernel
theorem dX11_round_4 : decode cX11_round 4 = .ok (.iload_n 1, 1) := by decide +kernel
theorem dX11_round_5 : decode cX11_round 5 = .ok (.invokevirtual 137, 3) := by decide +kernel
theorem dX11_round_8 : decode cX11_round 8 = .ok (.ifCond .ne 5, 3) := by decide +kernel
theorem dX11_round_11 : decode cX11_round 11 = .ok (.iconst (-1), 1) := by decide +kernel
theorem dX11_round_12 : decode cX11_round 12 = .ok (.ireturn, 1) := by decide +kernel
theorem dX11_rule_0 : decode cX11_rule 0 = .ok (.aload_n 0, 1) := by decide +kernel
theorem dX11_rule_1 : decode cX11_rule 1 = .ok (.getfield 40, 3) := by decide +kernel
theorem dX11_rule_4 : decode cX11_rule 4 = .ok (.aload_n 0, 1) := by decide +kernel
theorem dX11_rule_5 : decode cX11_rule 5 = .ok (.getfield 12, 3) := by decide +kernel
theorem dX11_rule_8 : decode cX11_rule 8 = .ok (.invokevirtual 133, 3) := by decide +kernel
theorem dX11_rule_11 : decode cX11_rule 11 = .ok (.istore_n 1, 1) := by decide +kernel
theorem dX11_rule_12 : decode cX11_rule 12 = .ok (.aload_n 0, 1) := by decide +kernel
theorem dX11_rule_13 : decode cX11_rule 13 = .ok (.getfield 12, 3) := by decide +kernel
theorem dX11_rule_16 : decode cX11_rule 16 = .ok (.iconst 0, 1) := by decide +kernel
theorem dX11_rule_17 : decode cX11_rule 17 = .ok (.invokevirtual 111, 3) := by decide +kernel
theorem dX11_rule_20 : decode cX11_rule 20 = .ok (.pop, 1) := by decide +kernel
theorem dX11_rule_21 : decode cX11_rule 21 = .ok (.iload_n 1, 1) := by decide +kernel
theorem dX11_rule_22 : decode cX11_rule 22 = .ok (.ifCond .lt 14, 3) := by decide +kernel
theorem dX11_rule_25 : decode cX11_rule 25 = .ok (.aload_n 0, 1) := by decide +kernel
theorem dX11_rule_26 : decode cX11_rule 26 = .ok (.getfield 36, 3) := by decide +kernel
theorem dX11_rule_29 : decode cX11_rule 29 = .ok (.aload_n 0, 1) := by decide +kernel
theorem dX11_rule_30 : decode cX11_rule 30 = .ok (.getfield 40, 3) := by decide +kernel
theorem dX11_rule_33 : decode cX11_rule 33 = .ok (.invokevirtual 134, 3) := by decide +kernel
theorem dX11_rule_36 : decode cX11_rule 36 = .ok (.iload_n 1, 1) := by decide +kernel
theorem dX11_rule_37 : decode cX11_rule 37 = .ok (.ireturn, 1) := by decide +kernel
theorem dX11_run_0 : decode cX11_run 0 = .ok (.iload_n 1, 1) := by decide +kernel
theorem dX11_run_1 : decode cX11_run 1 = .ok (.ifCond .lt 9, 3) := by decide +kernel
theorem dX11_run_4 : decode cX11_run 4 = .ok (.iload_n 1, 1) := by decide +kernel
theorem dX11_run_5 : decode cX11_run 5 = .ok (.bipush 99, 2) := by decide +kernel
theorem dX11_run_7 : decode cX11_run 7 = .ok (.if_icmp .le 5, 3) := by decide +kernel
theorem dX11_run_10 : decode cX11_run 10 = .ok (.iconst (-1), 1) := by decide +kernel
theorem dX11_run_11 : decode cX11_run 11 = .ok (.ireturn, 1) := by decide +kernel
theorem dX11_run_12 : decode cX11_run 12 = .ok (.iload_n 1, 1) := by decide +kernel
theorem dX11_run_13 : decode cX11_run 13 = .ok (.ifCond .le 14, 3) := by decide +kernel
theorem dX11_run_16 : decode cX11_run 16 = .ok (.aload_n 0, 1) := by decide +kernel
theorem dX11_run_17 : decode cX11_run 17 = .ok (.getfield 63, 3) := by decide +kernel
theorem dX11_run_20 : decode cX11_run 20 = .ok (.aload_n 0, 1) := by decide +kernel
theorem dX11_run_21 : decode cX11_run 21 = .ok (.getfield 53, 3) := by decide +kernel
theorem dX11_run_24 : decode cX11_run 24 = .ok (.invokevirtual 204, 3) := by decide +kernel
theorem dX11_run_27 : decode cX11_run 27 = .ok (.aload_n 0, 1) := by decide +kernel
theorem dX11_run_28 : decode cX11_run 28 = .ok (.getfield 53, 3) := by decide +kernel
theorem dX11_run_31 : decode cX11_run 31 = .ok (.getfield 247, 3) := by decide +kernel
theorem dX11_run_34 : decode cX11_run 34 = .ok (.istore_n 2, 1) := by decide +kernel
theorem dX11_run_35 : decode cX11_run 35 = .ok (.aload_n 0, 1) := by decide +kernel
theorem dX11_run_36 : decode cX11_run 36 = .ok (.getfield 53, 3) := by decide +kernel
theorem dX11_run_39 : decode cX11_run 39 = .ok (.getfield 250, 3) := by decide +kernel
theorem dX11_run_42 : decode cX11_run 42 = .ok (.istore_n 3, 1) := by decide +kernel
theorem dX11_run_43 : decode cX11_run 43 = .ok (.aload_n 0, 1) := by decide +kernel
theorem dX11_run_44 : decode cX11_run 44 = .ok (.iload_n 1, 1) := by decide +kernel
theorem dX11_run_45 : decode cX11_run 45 = .ok (.invokevirtual 253, 3) := by decide +kernel
theorem dX11_run_48 : decode cX11_run 48 = .ok (.aload_n 0, 1) := by decide +kernel
theorem dX11_run_49 : decode cX11_run 49 = .ok (.getfield 53, 3) := by decide +kernel
theorem dX11_run_52 : decode cX11_run 52 = .ok (.getfield 247, 3) := by decide +kernel
theorem dX11_run_55 : decode cX11_run 55 = .ok (.iload_n 2, 1) := by decide +kernel
theorem dX11_run_56 : decode cX11_run 56 = .ok (.iconst (-1), 1) := by decide +kernel
theorem dX11_run_57 : decode cX11_run 57 = .ok (.ixor, 1) := by decide +kernel
theorem dX11_run_58 : decode cX11_run 58 = .ok (.iand, 1) := by decide +kernel
theorem dX11_run_59 : decode cX11_run 59 = .ok (.istore 4, 2) := by decide +kernel
theorem dX11_run_61 : decode cX11_run 61 = .ok (.aload_n 0, 1) := by decide +kernel
theorem dX11_run_62 : decode cX11_run 62 = .ok (.getfield 81, 3) := by decide +kernel
theorem dX11_run_65 : decode cX11_run 65 = .ok (.iload 4, 2) := by decide +kernel
theorem dX11_run_67 : decode cX11_run 67 = .ok (.i2l, 1) := by decide +kernel
theorem dX11_run_68 : decode cX11_run 68 = .ok (.aload_n 0, 1) := by decide +kernel
theorem dX11_run_69 : decode cX11_run 69 = .ok (.getfield 53, 3) := by decide +kernel
theorem dX11_run_72 : decode cX11_run 72 = .ok (.getfield 250, 3) := by decide +kernel
theorem dX11_run_75 : decode cX11_run 75 = .ok (.iload_n 3, 1) := by decide +kernel
theorem dX11_run_76 : decode cX11_run 76 = .ok (.iconst (-1), 1) := by decide +kernel
theorem dX11_run_77 : decode cX11_run 77 = .ok (.ixor, 1) := by decide +kernel
theorem dX11_run_78 : decode cX11_run 78 = .ok (.iand, 1) := by decide +kernel
theorem dX11_run_79 : decode cX11_run 79 = .ok (.i2l, 1) := by decide +kernel
theorem dX11_run_80 : decode cX11_run 80 = .ok (.invokevirtual 257, 3) := by decide +kernel
theorem dX11_run_83 : decode cX11_run 83 = .ok (.iload 4, 2) := by decide +kernel
theorem dX11_run_85 : decode cX11_run 85 = .ok (.invokestatic 261, 3) := by decide +kernel
theorem dX11_run_88 : decode cX11_run 88 = .ok (.ireturn, 1) := by decide +kernel
theorem dX11_sail_0 : decode cX11_sail 0 = .ok (.aload_n 0, 1) := by decide +kernel
theorem dX11_sail_1 : decode cX11_sail 1 = .ok (.getfield 19, 3) := by decide +kernel
theorem dX11_sail_4 : decode cX11_sail 4 = .ok (.iload_n 1, 1) := by decide +kernel
theorem dX11_sail_5 : decode cX11_sail 5 = .ok (.invokevirtual 137, 3) := by decide +kernel
theorem dX11_sail_8 : decode cX11_sail 8 = .ok (.ifCond .eq 31, 3) := by decide +kernel
theorem dX11_sail_39 : decode cX11_sail 39 = .ok (.iconst (-1), 1) := by decide +kernel
theorem dX11_sail_40 : decode cX11_sail 40 = .ok (.ireturn, 1) := by decide +kernel
theorem dX11_save_0 : decode cX11_save 0 = .ok (.iload_n 1, 1) := by decide +kernel
theorem dX11_save_1 : decode cX11_save 1 = .ok (.ifCond .lt 16, 3) := by decide +kernel
theorem dX11_save_4 : decode cX11_save 4 = .ok (.iload_n 1, 1) := by decide +kernel
theorem dX11_save_5 : decode cX11_save 5 = .ok (.iconst 1, 1) := by decide +kernel
theorem dX11_save_6 : decode cX11_save 6 = .ok (.aload_n 0, 1) := by decide +kernel
theorem dX11_save_7 : decode cX11_save 7 = .ok (.getfield 53, 3) := by decide +kernel
theorem dX11_save_10 : decode cX11_save 10 = .ok (.getfield 208, 3) := by decide +kernel
theorem dX11_save_13 : decode cX11_save 13 = .ok (.ishl, 1) := by decide +kernel
theorem dX11_save_14 : decode cX11_save 14 = .ok (.if_icmp .lt 5, 3) := by decide +kernel
theorem dX11_save_17 : decode cX11_save 17 = .ok (.iconst (-1), 1) := by decide +kernel
theorem dX11_save_18 : decode cX11_save 18 = .ok (.ireturn, 1) := by decide +kernel
theorem dX11_save_19 : decode cX11_save 19 = .ok (.aload_n 0, 1) := by decide +kernel
theorem dX11_save_20 : decode cX11_save 20 = .ok (.getfield 99, 3) := by decide +kernel
theorem dX11_save_23 : decode cX11_save 23 = .ok (.aload_n 0, 1) := by decide +kernel
theorem dX11_save_24 : decode cX11_save 24 = .ok (.getfield 53, 3) := by decide +kernel
theorem dX11_save_27 : decode cX11_save 27 = .ok (.iload_n 1, 1) := by decide +kernel
theorem dX11_save_28 : decode cX11_save 28 = .ok (.iconst 0, 1) := by decide +kernel
theorem dX11_save_29 : decode cX11_save 29 = .ok (.invokevirtual 343, 3) := by decide +kernel
theorem dX11_save_32 : decode cX11_save 32 = .ok (.aload_n 0, 1) := by decide +kernel
theorem dX11_save_33 : decode cX11_save 33 = .ok (.iconst (-1), 1) := by decide +kernel
theorem dX11_save_34 : decode cX11_save 34 = .ok (.invokevirtual 347, 3) := by decide +kernel
theorem dX11_save_37 : decode cX11_save 37 = .ok (.ireturn, 1) := by decide +kernel
theorem dX11_sheet_0 : decode cX11_sheet 0 = .ok (.iload_n 1, 1) := by decide +kernel
theorem dX11_sheet_1 : decode cX11_sheet 1 = .ok (.ifCond .lt 14, 3) := by decide +kernel
theorem dX11_sheet_4 : decode cX11_sheet 4 = .ok (.iload_n 1, 1) := by decide +kernel
theorem dX11_sheet_5 : decode cX11_sheet 5 = .ok (.iconst 3, 1) := by decide +kernel
theorem dX11_sheet_6 : decode cX11_sheet 6 = .ok (.if_icmp .gt 9, 3) := by decide +kernel
theorem dX11_sheet_9 : decode cX11_sheet 9 = .ok (.iload_n 2, 1) := by decide +kernel
theorem dX11_sheet_10 : decode cX11_sheet 10 = .ok (.bipush 6, 2) := by decide +kernel
theorem dX11_sheet_12 : decode cX11_sheet 12 = .ok (.if_icmp .le 5, 3) := by decide +kernel
theorem dX11_sheet_15 : decode cX11_sheet 15 = .ok (.iconst (-1), 1) := by decide +kernel
theorem dX11_sheet_16 : decode cX11_sheet 16 = .ok (.ireturn, 1) := by decide +kernel
theorem dX11_sheet_17 : decode cX11_sheet 17 = .ok (.iload_n 1, 1) := by decide +kernel
theorem dX11_sheet_18 : decode cX11_sheet 18 = .ok (.iconst 3, 1) := by decide +kernel
theorem dX11_sheet_19 : decode cX11_sheet 19 = .ok (.if_icmp .ne 7, 3) := by decide +kernel
theorem dX11_sheet_22 : decode cX11_sheet 22 = .ok (.iconst 1, 1) := by decide +kernel
theorem dX11_sheet_23 : decode cX11_sheet 23 = .ok (.goto 4, 3) := by decide +kernel
theorem dX11_sheet_26 : decode cX11_sheet 26 = .ok (.iconst 0, 1) := by decide +kernel
theorem dX11_sheet_27 : decode cX11_sheet 27 = .ok (.istore 5, 2) := by decide +kernel
theorem dX11_sheet_29 : decode cX11_sheet 29 = .ok (.iload 5, 2) := by decide +kernel
theorem dX11_sheet_31 : decode cX11_sheet 31 = .ok (.ifCond .ne 10, 3) := by decide +kernel
theorem dX11_sheet_34 : decode cX11_sheet 34 = .ok (.iload_n 2, 1) := by decide +kernel
theorem dX11_sheet_35 : decode cX11_sheet 35 = .ok (.ifCond .ge 6, 3) := by decide +kernel
theorem dX11_sheet_38 : decode cX11_sheet 38 = .ok (.bipush (-2), 2) := by decide +kernel
theorem dX11_sheet_40 : decode cX11_sheet 40 = .ok (.ireturn, 1) := by decide +kernel
theorem dX11_sheet_41 : decode cX11_sheet 41 = .ok (.iconst 0, 1) := by decide +kernel
theorem dX11_sheet_42 : decode cX11_sheet 42 = .ok (.istore 6, 2) := by decide +kernel
theorem dX11_sheet_44 : decode cX11_sheet 44 = .ok (.iconst 0, 1) := by decide +kernel
theorem dX11_sheet_45 : decode cX11_sheet 45 = .ok (.istore 7, 2) := by decide +kernel
theorem dX11_sheet_47 : decode cX11_sheet 47 = .ok (.iload 7, 2) := by decide +kernel
theorem dX11_sheet_49 : decode cX11_sheet 49 = .ok (.aload_n 0, 1) := by decide +kernel
theorem dX11_sheet_50 : decode cX11_sheet 50 = .ok (.getfield 53, 3) := by decide +kernel
theorem dX11_sheet_53 : decode cX11_sheet 53 = .ok (.getfield 208, 3) := by decide +kernel
theorem dX11_sheet_56 : decode cX11_sheet 56 = .ok (.if_icmp .ge 55, 3) := by decide +kernel
theorem dX11_sheet_111 : decode cX11_sheet 111 = .ok (.iload 5, 2) := by decide +kernel
theorem dX11_sheet_113 : decode cX11_sheet 113 = .ok (.ifCond .eq 8, 3) := by decide +kernel
theorem dX11_sheet_116 : decode cX11_sheet 116 = .ok (.bipush (-3), 2) := by decide +kernel
theorem dX11_sheet_118 : decode cX11_sheet 118 = .ok (.goto 5, 3) := by decide +kernel
theorem dX11_sheet_121 : decode cX11_sheet 121 = .ok (.iload 6, 2) := by decide +kernel
theorem dX11_sheet_123 : decode cX11_sheet 123 = .ok (.ireturn, 1) := by decide +kernel
theorem dX11_sign_0 : decode cX11_sign 0 = .ok (.aload_n 0, 1) := by decide +kernel
theorem dX11_sign_1 : decode cX11_sign 1 = .ok (.getfield 12, 3) := by decide +kernel
theorem dX11_sign_4 : decode cX11_sign 4 = .ok (.iload_n 1, 1) := by decide +kernel
theorem dX11_sign_5 : decode cX11_sign 5 = .ok (.invokevirtual 103, 3) := by decide +kernel
theorem dX11_sign_8 : decode cX11_sign 8 = .ok (.ifCond .eq 13, 3) := by decide +kernel
theorem dX11_sign_11 : decode cX11_sign 11 = .ok (.aload_n 0, 1) := by decide +kernel
theorem dX11_sign_12 : decode cX11_sign 12 = .ok (.getfield 12, 3) := by decide +kernel
theorem dX11_sign_15 : decode cX11_sign 15 = .ok (.getfield 107, 3) := by decide +kernel
theorem dX11_sign_18 : decode cX11_sign 18 = .ok (.goto 4, 3) := by decide +kernel
theorem dX11_sign_22 : decode cX11_sign 22 = .ok (.ireturn, 1) := by decide +kernel
theorem dX11_soonest_0 : decode cX11_soonest 0 = .ok (.iload_n 1, 1) := by decide +kernel
theorem dX11_soonest_1 : decode cX11_soonest 1 = .ok (.iload_n 2, 1) := by decide +kernel
theorem dX11_soonest_2 : decode cX11_soonest 2 = .ok (.invokestatic 227, 3) := by decide +kernel
theorem dX11_soonest_5 : decode cX11_soonest 5 = .ok (.ifCond .eq 14, 3) := by decide +kernel
theorem dX11_soonest_8 : decode cX11_soonest 8 = .ok (.aload_n 0, 1) := by decide +kernel
theorem dX11_soonest_9 : decode cX11_soonest 9 = .ok (.getfield 19, 3) := by decide +kernel
theorem dX11_soonest_12 : decode cX11_soonest 12 = .ok (.iload_n 3, 1) := by decide +kernel
theorem dX11_soonest_13 : decode cX11_soonest 13 = .ok (.invokevirtual 234, 3) := by decide +kernel
theorem dX11_soonest_16 : decode cX11_soonest 16 = .ok (.ifCond .ne 5, 3) := by decide +kernel
theorem dX11_soonest_19 : decode cX11_soonest 19 = .ok (.iconst (-1), 1) := by decide +kernel
theorem dX11_soonest_20 : decode cX11_soonest 20 = .ok (.ireturn, 1) := by decide +kernel
theorem dX11_steer_0 : decode cX11_steer 0 = .ok (.aload_n 0, 1) := by decide +kernel
theorem dX11_steer_1 : decode cX11_steer 1 = .ok (.getfield 53, 3) := by decide +kernel
theorem dX11_steer_4 : decode cX11_steer 4 = .ok (.iload_n 1, 1) := by decide +kernel
theorem dX11_steer_5 : decode cX11_steer 5 = .ok (.invokevirtual 172, 3) := by decide +kernel
theorem dX11_steer_8 : decode cX11_steer 8 = .ok (.ifCond .eq 14, 3) := by decide +kernel
theorem dX11_steer_22 : decode cX11_steer 22 = .ok (.iconst (-1), 1) := by decide +kernel
theorem dX11_steer_23 : decode cX11_steer 23 = .ok (.ireturn, 1) := by decide +kernel
theorem dX11_town_0 : decode cX11_town 0 = .ok (.aload_n 0, 1) := by decide +kernel
theorem dX11_town_1 : decode cX11_town 1 = .ok (.getfield 23, 3) := by decide +kernel
theorem dX11_town_4 : decode cX11_town 4 = .ok (.aload_n 0, 1) := by decide +kernel
theorem dX11_town_5 : decode cX11_town 5 = .ok (.getfield 12, 3) := by decide +kernel
theorem dX11_town_8 : decode cX11_town 8 = .ok (.invokevirtual 114, 3) := by decide +kernel
theorem dX11_town_11 : decode cX11_town 11 = .ok (.istore_n 1, 1) := by decide +kernel
theorem dX11_town_12 : decode cX11_town 12 = .ok (.aload_n 0, 1) := by decide +kernel
theorem dX11_town_13 : decode cX11_town 13 = .ok (.getfield 12, 3) := by decide +kernel
theorem dX11_town_16 : decode cX11_town 16 = .ok (.iconst 0, 1) := by decide +kernel
theorem dX11_town_17 : decode cX11_town 17 = .ok (.invokevirtual 111, 3) := by decide +kernel
theorem dX11_town_20 : decode cX11_town 20 = .ok (.pop, 1) := by decide +kernel
theorem dX11_town_21 : decode cX11_town 21 = .ok (.iload_n 1, 1) := by decide +kernel
theorem dX11_town_22 : decode cX11_town 22 = .ok (.ifCond .ge 5, 3) := by decide +kernel
theorem dX11_town_27 : decode cX11_town 27 = .ok (.aload_n 0, 1) := by decide +kernel
theorem dX11_town_28 : decode cX11_town 28 = .ok (.getfield 19, 3) := by decide +kernel
theorem dX11_town_31 : decode cX11_town 31 = .ok (.aload_n 0, 1) := by decide +kernel
theorem dX11_town_32 : decode cX11_town 32 = .ok (.getfield 23, 3) := by decide +kernel
theorem dX11_town_35 : decode cX11_town 35 = .ok (.invokevirtual 118, 3) := by decide +kernel
theorem dX11_town_38 : decode cX11_town 38 = .ok (.aload_n 0, 1) := by decide +kernel
theorem dX11_town_39 : decode cX11_town 39 = .ok (.getfield 53, 3) := by decide +kernel
theorem dX11_town_42 : decode cX11_town 42 = .ok (.invokevirtual 122, 3) := by decide +kernel
theorem dX11_town_45 : decode cX11_town 45 = .ok (.aload_n 0, 1) := by decide +kernel
theorem dX11_town_46 : decode cX11_town 46 = .ok (.getfield 63, 3) := by decide +kernel
theorem dX11_town_49 : decode cX11_town 49 = .ok (.invokevirtual 125, 3) := by decide +kernel
theorem dX11_town_52 : decode cX11_town 52 = .ok (.aload_n 0, 1) := by decide +kernel
theorem dX11_town_53 : decode cX11_town 53 = .ok (.getfield 74, 3) := by decide +kernel
theorem dX11_town_56 : decode cX11_town 56 = .ok (.iconst 0, 1) := by decide +kernel
theorem dX11_town_57 : decode cX11_town 57 = .ok (.putfield 126, 3) := by decide +kernel
theorem dX11_town_60 : decode cX11_town 60 = .ok (.aload_n 0, 1) := by decide +kernel
theorem dX11_town_61 : decode cX11_town 61 = .ok (.iconst 0, 1) := by decide +kernel
theorem dX11_town_62 : decode cX11_town 62 = .ok (.putfield 129, 3) := by decide +kernel
theorem dX11_town_65 : decode cX11_town 65 = .ok (.iload_n 1, 1) := by decide +kernel
theorem dX11_town_66 : decode cX11_town 66 = .ok (.ireturn, 1) := by decide +kernel
theorem dX11_undo_0 : decode cX11_undo 0 = .ok (.aload_n 0, 1) := by decide +kernel
theorem dX11_undo_1 : decode cX11_undo 1 = .ok (.getfield 63, 3) := by decide +kernel
theorem dX11_undo_4 : decode cX11_undo 4 = .ok (.aload_n 0, 1) := by decide +kernel
theorem dX11_undo_5 : decode cX11_undo 5 = .ok (.getfield 53, 3) := by decide +kernel
theorem dX11_undo_8 : decode cX11_undo 8 = .ok (.invokevirtual 283, 3) := by decide +kernel
theorem dX11_undo_11 : decode cX11_undo 11 = .ok (.ifCond .eq 13, 3) := by decide +kernel
theorem dX11_undo_24 : decode cX11_undo 24 = .ok (.iconst (-1), 1) := by decide +kernel
theorem dX11_undo_25 : decode cX11_undo 25 = .ok (.ireturn, 1) := by decide +kernel
theorem dX11_waits_0 : decode cX11_waits 0 = .ok (.aload_n 0, 1) := by decide +kernel
theorem dX11_waits_1 : decode cX11_waits 1 = .ok (.getfield 19, 3) := by decide +kernel
theorem dX11_waits_4 : decode cX11_waits 4 = .ok (.iload_n 1, 1) := by decide +kernel
theorem dX11_waits_5 : decode cX11_waits 5 = .ok (.invokevirtual 137, 3) := by decide +kernel
theorem dX11_waits_8 : decode cX11_waits 8 = .ok (.ifCond .eq 23, 3) := by decide +kernel
theorem dX11_waits_31 : decode cX11_waits 31 = .ok (.iconst (-1), 1) := by decide +kernel
theorem dX11_waits_32 : decode cX11_waits 32 = .ok (.ireturn, 1) := by decide +kernel
theorem dX11_water_0 : decode cX11_water 0 = .ok (.aload_n 0, 1) := by decide +kernel
theorem dX11_water_1 : decode cX11_water 1 = .ok (.getfield 29, 3) := by decide +kernel
theorem dX11_water_4 : decode cX11_water 4 = .ok (.aload_n 0, 1) := by decide +kernel
theorem dX11_water_5 : decode cX11_water 5 = .ok (.getfield 12, 3) := by decide +kernel
theorem dX11_water_8 : decode cX11_water 8 = .ok (.invokevirtual 132, 3) := by decide +kernel
theorem dX11_water_11 : decode cX11_water 11 = .ok (.istore_n 1, 1) := by decide +kernel
theorem dX11_water_12 : decode cX11_water 12 = .ok (.aload_n 0, 1) := by decide +kernel
theorem dX11_water_13 : decode cX11_water 13 = .ok (.getfield 12, 3) := by decide +kernel
theorem dX11_water_16 : decode cX11_water 16 = .ok (.iconst 0, 1) := by decide +kernel
theorem dX11_water_17 : decode cX11_water 17 = .ok (.invokevirtual 111, 3) := by decide +kernel
theorem dX11_water_20 : decode cX11_water 20 = .ok (.pop, 1) := by decide +kernel
theorem dX11_water_21 : decode cX11_water 21 = .ok (.iload_n 1, 1) := by decide +kernel
theorem dX11_water_22 : decode cX11_water 22 = .ok (.ireturn, 1) := by decide +kernel
theorem dX11_ways_0 : decode cX11_ways 0 = .ok (.aload_n 0, 1) := by decide +kernel
theorem dX11_ways_1 : decode cX11_ways 1 = .ok (.getfield 19, 3) := by decide +kernel
theorem dX11_ways_4 : decode cX11_ways 4 = .ok (.iload_n 1, 1) := by decide +kernel
theorem dX11_ways_5 : decode cX11_ways 5 = .ok (.invokevirtual 137, 3) := by decide +kernel
theorem dX11_ways_8 : decode cX11_ways 8 = .ok (.ifCond .eq 23, 3) := by decide +kernel
theorem dX11_ways_31 : decode cX11_ways 31 = .ok (.iconst (-1), 1) := by decide +kernel
theorem dX11_ways_32 : decode cX11_ways 32 = .ok (.ireturn, 1) := by decide +kernel
theorem dX11_where_0 : decode cX11_where 0 = .ok (.aload_n 0, 1) := by decide +kernel
theorem dX11_where_1 : decode cX11_where 1 = .ok (.getfield 53, 3) := by decide +kernel
theorem dX11_where_4 : decode cX11_where 4 = .ok (.iload_n 1, 1) := by decide +kernel
theorem dX11_where_5 : decode cX11_where 5 = .ok (.invokevirtual 172, 3) := by decide +kernel
theorem dX11_where_8 : decode cX11_where 8 = .ok (.ifCond .eq 10, 3) := by decide +kernel
theorem dX11_where_18 : decode cX11_where 18 = .ok (.iconst (-1), 1) := by decide +kernel
theorem dX11_where_19 : decode cX11_where 19 = .ok (.ireturn, 1) := by decide +kernel
theorem dX1_flowIn_0 : decode cX1_flowIn 0 = .ok (.aload_n 0, 1) := by decide +kernel
theorem dX1_flowIn_1 : decode cX1_flowIn 1 = .ok (.getfield 21, 3) := by decide +kernel
theorem dX1_flowIn_4 : decode cX1_flowIn 4 = .ok (.iload_n 1, 1) := by decide +kernel
theorem dX1_flowIn_5 : decode cX1_flowIn 5 = .ok (.invokevirtual 33, 3) := by decide +kernel
theorem dX1_flowIn_8 : decode cX1_flowIn 8 = .ok (.istore_n 2, 1) := by decide +kernel
theorem dX1_flowIn_9 : decode cX1_flowIn 9 = .ok (.aload_n 0, 1) := by decide +kernel
theorem dX1_flowIn_10 : decode cX1_flowIn 10 = .ok (.getfield 39, 3) := by decide +kernel
theorem dX1_flowIn_13 : decode cX1_flowIn 13 = .ok (.ifCond .ne 5, 3) := by decide +kernel
theorem dX1_flowIn_16 : decode cX1_flowIn 16 = .ok (.iload_n 2, 1) := by decide +kernel
theorem dX1_flowIn_17 : decode cX1_flowIn 17 = .ok (.ireturn, 1) := by decide +kernel
theorem dX1_pass_0 : decode cX1_pass 0 = .ok (.aload_n 0, 1) := by decide +kernel
theorem dX1_pass_1 : decode cX1_pass 1 = .ok (.aload_n 1, 1) := by decide +kernel
theorem dX1_pass_2 : decode cX1_pass 2 = .ok (.getfield 52, 3) := by decide +kernel
theorem dX1_pass_5 : decode cX1_pass 5 = .ok (.invokevirtual 57, 3) := by decide +kernel
theorem dX1_pass_8 : decode cX1_pass 8 = .ok (.istore_n 2, 1) := by decide +kernel
theorem dX1_pass_9 : decode cX1_pass 9 = .ok (.iconst 0, 1) := by decide +kernel
theorem dX1_pass_10 : decode cX1_pass 10 = .ok (.istore_n 3, 1) := by decide +kernel
theorem dX1_pass_11 : decode cX1_pass 11 = .ok (.iload_n 3, 1) := by decide +kernel
theorem dX1_pass_12 : decode cX1_pass 12 = .ok (.aload_n 1, 1) := by decide +kernel
theorem dX1_pass_13 : decode cX1_pass 13 = .ok (.getfield 60, 3) := by decide +kernel
theorem dX1_pass_16 : decode cX1_pass 16 = .ok (.if_icmp .ge 49, 3) := by decide +kernel
theorem dX1_pass_65 : decode cX1_pass 65 = .ok (.aload_n 1, 1) := by decide +kernel
theorem dX1_pass_66 : decode cX1_pass 66 = .ok (.dup, 1) := by decide +kernel
theorem dX1_pass_67 : decode cX1_pass 67 = .ok (.getfield 52, 3) := by decide +kernel
theorem dX1_pass_70 : decode cX1_pass 70 = .ok (.iconst 1, 1) := by decide +kernel
theorem dX1_pass_71 : decode cX1_pass 71 = .ok (.iadd, 1) := by decide +kernel
theorem dX1_pass_72 : decode cX1_pass 72 = .ok (.putfield 52, 3) := by decide +kernel
theorem dX1_pass_75 : decode cX1_pass 75 = .ok (.return_, 1) := by decide +kernel
theorem dX1_seesOthers_0 : decode cX1_seesOthers 0 = .ok (.aload_n 0, 1) := by decide +kernel
theorem dX1_seesOthers_1 : decode cX1_seesOthers 1 = .ok (.getfield 25, 3) := by decide +kernel
theorem dX1_seesOthers_4 : decode cX1_seesOthers 4 = .ok (.getfield 29, 3) := by decide +kernel
theorem dX1_seesOthers_7 : decode cX1_seesOthers 7 = .ok (.ireturn, 1) := by decide +kernel
theorem dX2_read_0 : decode cX2_read 0 = .ok (.aload_n 0, 1) := by decide +kernel
theorem dX2_read_1 : decode cX2_read 1 = .ok (.iconst 0, 1) := by decide +kernel
theorem dX2_read_2 : decode cX2_read 2 = .ok (.putfield 22, 3) := by decide +kernel
theorem dX2_read_5 : decode cX2_read 5 = .ok (.aload_n 1, 1) := by decide +kernel
theorem dX2_read_6 : decode cX2_read 6 = .ok (.bipush 60, 2) := by decide +kernel
theorem dX2_read_8 : decode cX2_read 8 = .ok (.invokevirtual 30, 3) := by decide +kernel
theorem dX2_read_11 : decode cX2_read 11 = .ok (.aload_n 1, 1) := by decide +kernel
theorem dX2_read_12 : decode cX2_read 12 = .ok (.iconst 0, 1) := by decide +kernel
theorem dX2_read_13 : decode cX2_read 13 = .ok (.invokevirtual 36, 3) := by decide +kernel
theorem dX2_read_16 : decode cX2_read 16 = .ok (.ifCond .eq 5, 3) := by decide +kernel
theorem dX2_read_19 : decode cX2_read 19 = .ok (.iconst 0, 1) := by decide +kernel
theorem dX2_read_20 : decode cX2_read 20 = .ok (.ireturn, 1) := by decide +kernel
theorem dX3_clear_0 : decode cX3_clear 0 = .ok (.aload_n 0, 1) := by decide +kernel
theorem dX3_clear_1 : decode cX3_clear 1 = .ok (.iconst 0, 1) := by decide +kernel
theorem dX3_clear_2 : decode cX3_clear 2 = .ok (.putfield 16, 3) := by decide +kernel
theorem dX3_clear_5 : decode cX3_clear 5 = .ok (.return_, 1) := by decide +kernel
theorem dX3_pop_0 : decode cX3_pop 0 = .ok (.aload_n 0, 1) := by decide +kernel
theorem dX3_pop_1 : decode cX3_pop 1 = .ok (.getfield 20, 3) := by decide +kernel
theorem dX3_pop_4 : decode cX3_pop 4 = .ok (.ifCond .le 12, 3) := by decide +kernel
theorem dX3_pop_16 : decode cX3_pop 16 = .ok (.bipush 14, 2) := by decide +kernel
theorem dX3_pop_18 : decode cX3_pop 18 = .ok (.istore_n 2, 1) := by decide +kernel
theorem dX3_pop_19 : decode cX3_pop 19 = .ok (.aload_n 0, 1) := by decide +kernel
theorem dX3_pop_20 : decode cX3_pop 20 = .ok (.getfield 16, 3) := by decide +kernel
theorem dX3_pop_23 : decode cX3_pop 23 = .ok (.ifCond .le 9, 3) := by decide +kernel
theorem dX3_pop_32 : decode cX3_pop 32 = .ok (.iconst 0, 1) := by decide +kernel
theorem dX3_pop_33 : decode cX3_pop 33 = .ok (.ireturn, 1) := by decide +kernel
theorem dX3_push_0 : decode cX3_push 0 = .ok (.aload_n 0, 1) := by decide +kernel
theorem dX3_push_1 : decode cX3_push 1 = .ok (.getfield 20, 3) := by decide +kernel
theorem dX3_push_4 : decode cX3_push 4 = .ok (.ifCond .lt 12, 3) := by decide +kernel
theorem dX3_push_7 : decode cX3_push 7 = .ok (.aload_n 0, 1) := by decide +kernel
theorem dX3_push_8 : decode cX3_push 8 = .ok (.getfield 20, 3) := by decide +kernel
theorem dX3_push_11 : decode cX3_push 11 = .ok (.bipush 15, 2) := by decide +kernel
theorem dX3_push_13 : decode cX3_push 13 = .ok (.if_icmp .lt 4, 3) := by decide +kernel
theorem dX3_push_17 : decode cX3_push 17 = .ok (.aload_n 0, 1) := by decide +kernel
theorem dX3_push_18 : decode cX3_push 18 = .ok (.getfield 11, 3) := by decide +kernel
theorem dX3_push_21 : decode cX3_push 21 = .ok (.aload_n 0, 1) := by decide +kernel
theorem dX3_push_22 : decode cX3_push 22 = .ok (.getfield 20, 3) := by decide +kernel
theorem dX3_push_25 : decode cX3_push 25 = .ok (.aaload, 1) := by decide +kernel
theorem dX3_push_26 : decode cX3_push 26 = .ok (.aload_n 1, 1) := by decide +kernel
theorem dX3_push_27 : decode cX3_push 27 = .ok (.invokevirtual 23, 3) := by decide +kernel
theorem dX3_push_30 : decode cX3_push 30 = .ok (.aload_n 0, 1) := by decide +kernel
theorem dX3_push_31 : decode cX3_push 31 = .ok (.aload_n 0, 1) := by decide +kernel
theorem dX3_push_32 : decode cX3_push 32 = .ok (.getfield 20, 3) := by decide +kernel
theorem dX3_push_35 : decode cX3_push 35 = .ok (.iconst 1, 1) := by decide +kernel
theorem dX3_push_36 : decode cX3_push 36 = .ok (.iadd, 1) := by decide +kernel
theorem dX3_push_37 : decode cX3_push 37 = .ok (.bipush 15, 2) := by decide +kernel
theorem dX3_push_39 : decode cX3_push 39 = .ok (.if_icmp .ge 12, 3) := by decide +kernel
theorem dX3_push_42 : decode cX3_push 42 = .ok (.aload_n 0, 1) := by decide +kernel
theorem dX3_push_43 : decode cX3_push 43 = .ok (.getfield 20, 3) := by decide +kernel
theorem dX3_push_46 : decode cX3_push 46 = .ok (.iconst 1, 1) := by decide +kernel
theorem dX3_push_47 : decode cX3_push 47 = .ok (.iadd, 1) := by decide +kernel
theorem dX3_push_48 : decode cX3_push 48 = .ok (.goto 4, 3) := by decide +kernel
theorem dX3_push_52 : decode cX3_push 52 = .ok (.putfield 20, 3) := by decide +kernel
theorem dX3_push_55 : decode cX3_push 55 = .ok (.aload_n 0, 1) := by decide +kernel
theorem dX3_push_56 : decode cX3_push 56 = .ok (.bipush 15, 2) := by decide +kernel
theorem dX3_push_58 : decode cX3_push 58 = .ok (.aload_n 0, 1) := by decide +kernel
theorem dX3_push_59 : decode cX3_push 59 = .ok (.getfield 16, 3) := by decide +kernel
theorem dX3_push_62 : decode cX3_push 62 = .ok (.iconst 1, 1) := by decide +kernel
theorem dX3_push_63 : decode cX3_push 63 = .ok (.iadd, 1) := by decide +kernel
theorem dX3_push_64 : decode cX3_push 64 = .ok (.invokestatic 27, 3) := by decide +kernel
theorem dX3_push_67 : decode cX3_push 67 = .ok (.putfield 16, 3) := by decide +kernel
theorem dX3_push_70 : decode cX3_push 70 = .ok (.return_, 1) := by decide +kernel
theorem dX4_tell_0 : decode cX4_tell 0 = .ok (.aload_n 0, 1) := by decide +kernel
theorem dX4_tell_1 : decode cX4_tell 1 = .ok (.getfield 9, 3) := by decide +kernel
theorem dX4_tell_4 : decode cX4_tell 4 = .ok (.iconst 0, 1) := by decide +kernel
theorem dX4_tell_5 : decode cX4_tell 5 = .ok (.lload_n 1, 1) := by decide +kernel
theorem dX4_tell_6 : decode cX4_tell 6 = .ok (.lastore, 1) := by decide +kernel
theorem dX4_tell_7 : decode cX4_tell 7 = .ok (.aload_n 0, 1) := by decide +kernel
theorem dX4_tell_8 : decode cX4_tell 8 = .ok (.iconst 1, 1) := by decide +kernel
theorem dX4_tell_9 : decode cX4_tell 9 = .ok (.putfield 13, 3) := by decide +kernel
theorem dX4_tell_12 : decode cX4_tell 12 = .ok (.return_, 1) := by decide +kernel
theorem dX4_tell__0 : decode cX4_tell_ 0 = .ok (.aload_n 0, 1) := by decide +kernel
theorem dX4_tell__1 : decode cX4_tell_ 1 = .ok (.getfield 9, 3) := by decide +kernel
theorem dX4_tell__4 : decode cX4_tell_ 4 = .ok (.iconst 0, 1) := by decide +kernel
theorem dX4_tell__5 : decode cX4_tell_ 5 = .ok (.lload_n 1, 1) := by decide +kernel
theorem dX4_tell__6 : decode cX4_tell_ 6 = .ok (.lastore, 1) := by decide +kernel
theorem dX4_tell__7 : decode cX4_tell_ 7 = .ok (.aload_n 0, 1) := by decide +kernel
theorem dX4_tell__8 : decode cX4_tell_ 8 = .ok (.getfield 9, 3) := by decide +kernel
theorem dX4_tell__11 : decode cX4_tell_ 11 = .ok (.iconst 1, 1) := by decide +kernel
theorem dX4_tell__12 : decode cX4_tell_ 12 = .ok (.lload_n 3, 1) := by decide +kernel
theorem dX4_tell__13 : decode cX4_tell_ 13 = .ok (.lastore, 1) := by decide +kernel
theorem dX4_tell__14 : decode cX4_tell_ 14 = .ok (.aload_n 0, 1) := by decide +kernel
theorem dX4_tell__15 : decode cX4_tell_ 15 = .ok (.iconst 2, 1) := by decide +kernel
theorem dX4_tell__16 : decode cX4_tell_ 16 = .ok (.putfield 13, 3) := by decide +kernel
theorem dX4_tell__19 : decode cX4_tell_ 19 = .ok (.return_, 1) := by decide +kernel
theorem dX4_tell___0 : decode cX4_tell__ 0 = .ok (.aload_n 0, 1) := by decide +kernel
theorem dX4_tell___1 : decode cX4_tell__ 1 = .ok (.getfield 9, 3) := by decide +kernel
theorem dX4_tell___4 : decode cX4_tell__ 4 = .ok (.iconst 0, 1) := by decide +kernel
theorem dX4_tell___5 : decode cX4_tell__ 5 = .ok (.lload_n 1, 1) := by decide +kernel
theorem dX4_tell___6 : decode cX4_tell__ 6 = .ok (.lastore, 1) := by decide +kernel
theorem dX4_tell___7 : decode cX4_tell__ 7 = .ok (.aload_n 0, 1) := by decide +kernel
theorem dX4_tell___8 : decode cX4_tell__ 8 = .ok (.getfield 9, 3) := by decide +kernel
theorem dX4_tell___11 : decode cX4_tell__ 11 = .ok (.iconst 1, 1) := by decide +kernel
theorem dX4_tell___12 : decode cX4_tell__ 12 = .ok (.lload_n 3, 1) := by decide +kernel
theorem dX4_tell___13 : decode cX4_tell__ 13 = .ok (.lastore, 1) := by decide +kernel
theorem dX4_tell___14 : decode cX4_tell__ 14 = .ok (.aload_n 0, 1) := by decide +kernel
theorem dX4_tell___15 : decode cX4_tell__ 15 = .ok (.getfield 9, 3) := by decide +kernel
theorem dX4_tell___18 : decode cX4_tell__ 18 = .ok (.iconst 2, 1) := by decide +kernel
theorem dX4_tell___19 : decode cX4_tell__ 19 = .ok (.lload 5, 2) := by decide +kernel
theorem dX4_tell___21 : decode cX4_tell__ 21 = .ok (.lastore, 1) := by decide +kernel
theorem dX4_tell___22 : decode cX4_tell__ 22 = .ok (.aload_n 0, 1) := by decide +kernel
theorem dX4_tell___23 : decode cX4_tell__ 23 = .ok (.iconst 3, 1) := by decide +kernel
theorem dX4_tell___24 : decode cX4_tell__ 24 = .ok (.putfield 13, 3) := by decide +kernel
theorem dX4_tell___27 : decode cX4_tell__ 27 = .ok (.return_, 1) := by decide +kernel
theorem dX5_addFact_0 : decode cX5_addFact 0 = .ok (.aload_n 0, 1) := by decide +kernel
theorem dX5_addFact_1 : decode cX5_addFact 1 = .ok (.dup, 1) := by decide +kernel
theorem dX5_addFact_2 : decode cX5_addFact 2 = .ok (.getfield 23, 3) := by decide +kernel
theorem dX5_addFact_5 : decode cX5_addFact 5 = .ok (.iload_n 1, 1) := by decide +kernel
theorem dX5_addFact_6 : decode cX5_addFact 6 = .ok (.ifCond .ne 7, 3) := by decide +kernel
theorem dX5_addFact_9 : decode cX5_addFact 9 = .ok (.iconst 1, 1) := by decide +kernel
theorem dX5_addFact_10 : decode cX5_addFact 10 = .ok (.goto 4, 3) := by decide +kernel
theorem dX5_addFact_14 : decode cX5_addFact 14 = .ok (.ior, 1) := by decide +kernel
theorem dX5_addFact_15 : decode cX5_addFact 15 = .ok (.putfield 23, 3) := by decide +kernel
theorem dX5_addFact_18 : decode cX5_addFact 18 = .ok (.aload_n 0, 1) := by decide +kernel
theorem dX5_addFact_19 : decode cX5_addFact 19 = .ok (.dup, 1) := by decide +kernel
theorem dX5_addFact_20 : decode cX5_addFact 20 = .ok (.getfield 27, 3) := by decide +kernel
theorem dX5_addFact_23 : decode cX5_addFact 23 = .ok (.iload_n 1, 1) := by decide +kernel
theorem dX5_addFact_24 : decode cX5_addFact 24 = .ok (.bipush 6, 2) := by decide +kernel
theorem dX5_addFact_26 : decode cX5_addFact 26 = .ok (.if_icmp .ne 7, 3) := by decide +kernel
theorem dX5_addFact_33 : decode cX5_addFact 33 = .ok (.iconst 0, 1) := by decide +kernel
theorem dX5_addFact_34 : decode cX5_addFact 34 = .ok (.ior, 1) := by decide +kernel
theorem dX5_addFact_35 : decode cX5_addFact 35 = .ok (.putfield 27, 3) := by decide +kernel
theorem dX5_addFact_38 : decode cX5_addFact 38 = .ok (.aload_n 0, 1) := by decide +kernel
theorem dX5_addFact_39 : decode cX5_addFact 39 = .ok (.iload_n 1, 1) := by decide +kernel
theorem dX5_addFact_40 : decode cX5_addFact 40 = .ok (.invokevirtual 84, 3) := by decide +kernel
theorem dX5_addFact_43 : decode cX5_addFact 43 = .ok (.aload_n 0, 1) := by decide +kernel
theorem dX5_addFact_44 : decode cX5_addFact 44 = .ok (.iconst 3, 1) := by decide +kernel
theorem dX5_addFact_45 : decode cX5_addFact 45 = .ok (.putfield 69, 3) := by decide +kernel
theorem dX5_addFact_48 : decode cX5_addFact 48 = .ok (.aload_n 0, 1) := by decide +kernel
theorem dX5_addFact_49 : decode cX5_addFact 49 = .ok (.iconst 0, 1) := by decide +kernel
theorem dX5_addFact_50 : decode cX5_addFact 50 = .ok (.putfield 50, 3) := by decide +kernel
theorem dX5_addFact_53 : decode cX5_addFact 53 = .ok (.return_, 1) := by decide +kernel
theorem dX5_addStep_0 : decode cX5_addStep 0 = .ok (.aload_n 0, 1) := by decide +kernel
theorem dX5_addStep_1 : decode cX5_addStep 1 = .ok (.getfield 19, 3) := by decide +kernel
theorem dX5_addStep_4 : decode cX5_addStep 4 = .ok (.ifCond .lt 32, 3) := by decide +kernel
theorem dX5_addStep_7 : decode cX5_addStep 7 = .ok (.aload_n 0, 1) := by decide +kernel
theorem dX5_addStep_8 : decode cX5_addStep 8 = .ok (.getfield 19, 3) := by decide +kernel
theorem dX5_addStep_11 : decode cX5_addStep 11 = .ok (.bipush 40, 2) := by decide +kernel
theorem dX5_addStep_13 : decode cX5_addStep 13 = .ok (.if_icmp .ge 23, 3) := by decide +kernel
theorem dX5_addStep_16 : decode cX5_addStep 16 = .ok (.aload_n 0, 1) := by decide +kernel
theorem dX5_addStep_17 : decode cX5_addStep 17 = .ok (.getfield 9, 3) := by decide +kernel
theorem dX5_addStep_20 : decode cX5_addStep 20 = .ok (.aload_n 0, 1) := by decide +kernel
theorem dX5_addStep_21 : decode cX5_addStep 21 = .ok (.getfield 19, 3) := by decide +kernel
theorem dX5_addStep_24 : decode cX5_addStep 24 = .ok (.iload_n 1, 1) := by decide +kernel
theorem dX5_addStep_25 : decode cX5_addStep 25 = .ok (.iastore, 1) := by decide +kernel
theorem dX5_addStep_26 : decode cX5_addStep 26 = .ok (.aload_n 0, 1) := by decide +kernel
theorem dX5_addStep_27 : decode cX5_addStep 27 = .ok (.dup, 1) := by decide +kernel
theorem dX5_addStep_28 : decode cX5_addStep 28 = .ok (.getfield 19, 3) := by decide +kernel
theorem dX5_addStep_31 : decode cX5_addStep 31 = .ok (.iconst 1, 1) := by decide +kernel
theorem dX5_addStep_32 : decode cX5_addStep 32 = .ok (.iadd, 1) := by decide +kernel
theorem dX5_addStep_33 : decode cX5_addStep 33 = .ok (.putfield 19, 3) := by decide +kernel
theorem dX5_addStep_36 : decode cX5_addStep 36 = .ok (.return_, 1) := by decide +kernel
theorem dX5_clear_0 : decode cX5_clear 0 = .ok (.aload_n 0, 1) := by decide +kernel
theorem dX5_clear_1 : decode cX5_clear 1 = .ok (.iconst 0, 1) := by decide +kernel
theorem dX5_clear_2 : decode cX5_clear 2 = .ok (.putfield 19, 3) := by decide +kernel
theorem dX5_clear_5 : decode cX5_clear 5 = .ok (.aload_n 0, 1) := by decide +kernel
theorem dX5_clear_6 : decode cX5_clear 6 = .ok (.iconst 0, 1) := by decide +kernel
theorem dX5_clear_7 : decode cX5_clear 7 = .ok (.putfield 60, 3) := by decide +kernel
theorem dX5_clear_10 : decode cX5_clear 10 = .ok (.aload_n 0, 1) := by decide +kernel
theorem dX5_clear_11 : decode cX5_clear 11 = .ok (.iconst 0, 1) := by decide +kernel
theorem dX5_clear_12 : decode cX5_clear 12 = .ok (.putfield 63, 3) := by decide +kernel
theorem dX5_clear_15 : decode cX5_clear 15 = .ok (.aload_n 0, 1) := by decide +kernel
theorem dX5_clear_16 : decode cX5_clear 16 = .ok (.iconst 0, 1) := by decide +kernel
theorem dX5_clear_17 : decode cX5_clear 17 = .ok (.putfield 66, 3) := by decide +kernel
theorem dX5_clear_20 : decode cX5_clear 20 = .ok (.aload_n 0, 1) := by decide +kernel
theorem dX5_clear_21 : decode cX5_clear 21 = .ok (.iconst 0, 1) := by decide +kernel
theorem dX5_clear_22 : decode cX5_clear 22 = .ok (.putfield 69, 3) := by decide +kernel
theorem dX5_clear_25 : decode cX5_clear 25 = .ok (.aload_n 0, 1) := by decide +kernel
theorem dX5_clear_26 : decode cX5_clear 26 = .ok (.iconst 1, 1) := by decide +kernel
theorem dX5_clear_27 : decode cX5_clear 27 = .ok (.putfield 50, 3) := by decide +kernel
theorem dX5_clear_30 : decode cX5_clear 30 = .ok (.aload_n 0, 1) := by decide +kernel
theorem dX5_clear_31 : decode cX5_clear 31 = .ok (.iconst 0, 1) := by decide +kernel
theorem dX5_clear_32 : decode cX5_clear 32 = .ok (.putfield 23, 3) := by decide +kernel
theorem dX5_clear_35 : decode cX5_clear 35 = .ok (.aload_n 0, 1) := by decide +kernel
theorem dX5_clear_36 : decode cX5_clear 36 = .ok (.iconst 0, 1) := by decide +kernel
theorem dX5_clear_37 : decode cX5_clear 37 = .ok (.putfield 27, 3) := by decide +kernel
theorem dX5_clear_40 : decode cX5_clear 40 = .ok (.return_, 1) := by decide +kernel
theorem dX5_copy_0 : decode cX5_copy 0 = .ok (.aload_n 0, 1) := by decide +kernel
theorem dX5_copy_1 : decode cX5_copy 1 = .ok (.aload_n 1, 1) := by decide +kernel
theorem dX5_copy_2 : decode cX5_copy 2 = .ok (.getfield 19, 3) := by decide +kernel
theorem dX5_copy_5 : decode cX5_copy 5 = .ok (.putfield 19, 3) := by decide +kernel
theorem dX5_copy_8 : decode cX5_copy 8 = .ok (.aload_n 0, 1) := by decide +kernel
theorem dX5_copy_9 : decode cX5_copy 9 = .ok (.aload_n 1, 1) := by decide +kernel
theorem dX5_copy_10 : decode cX5_copy 10 = .ok (.getfield 23, 3) := by decide +kernel
theorem dX5_copy_13 : decode cX5_copy 13 = .ok (.putfield 23, 3) := by decide +kernel
theorem dX5_copy_16 : decode cX5_copy 16 = .ok (.aload_n 0, 1) := by decide +kernel
theorem dX5_copy_17 : decode cX5_copy 17 = .ok (.aload_n 1, 1) := by decide +kernel
theorem dX5_copy_18 : decode cX5_copy 18 = .ok (.getfield 27, 3) := by decide +kernel
theorem dX5_copy_21 : decode cX5_copy 21 = .ok (.putfield 27, 3) := by decide +kernel
theorem dX5_copy_24 : decode cX5_copy 24 = .ok (.iconst 0, 1) := by decide +kernel
theorem dX5_copy_25 : decode cX5_copy 25 = .ok (.istore_n 2, 1) := by decide +kernel
theorem dX5_copy_26 : decode cX5_copy 26 = .ok (.iload_n 2, 1) := by decide +kernel
theorem dX5_copy_27 : decode cX5_copy 27 = .ok (.bipush 40, 2) := by decide +kernel
theorem dX5_copy_29 : decode cX5_copy 29 = .ok (.if_icmp .ge 21, 3) := by decide +kernel
theorem dX5_copy_32 : decode cX5_copy 32 = .ok (.aload_n 0, 1) := by decide +kernel
theorem dX5_copy_33 : decode cX5_copy 33 = .ok (.getfield 9, 3) := by decide +kernel
theorem dX5_copy_36 : decode cX5_copy 36 = .ok (.iload_n 2, 1) := by decide +kernel
theorem dX5_copy_37 : decode cX5_copy 37 = .ok (.aload_n 1, 1) := by decide +kernel
theorem dX5_copy_38 : decode cX5_copy 38 = .ok (.getfield 9, 3) := by decide +kernel
theorem dX5_copy_41 : decode cX5_copy 41 = .ok (.iload_n 2, 1) := by decide +kernel
theorem dX5_copy_42 : decode cX5_copy 42 = .ok (.iaload, 1) := by decide +kernel
theorem dX5_copy_43 : decode cX5_copy 43 = .ok (.iastore, 1) := by decide +kernel
theorem dX5_copy_44 : decode cX5_copy 44 = .ok (.iinc 2 1, 3) := by decide +kernel
theorem dX5_copy_47 : decode cX5_copy 47 = .ok (.goto (-21), 3) := by decide +kernel
theorem dX5_copy_50 : decode cX5_copy 50 = .ok (.return_, 1) := by decide +kernel
theorem dX5_read_0 : decode cX5_read 0 = .ok (.aload_n 0, 1) := by decide +kernel
theorem dX5_read_1 : decode cX5_read 1 = .ok (.invokevirtual 30, 3) := by decide +kernel
theorem dX5_read_4 : decode cX5_read 4 = .ok (.aload_n 1, 1) := by decide +kernel
theorem dX5_read_5 : decode cX5_read 5 = .ok (.bipush 40, 2) := by decide +kernel
theorem dX5_read_7 : decode cX5_read 7 = .ok (.invokevirtual 33, 3) := by decide +kernel
theorem dX5_read_10 : decode cX5_read 10 = .ok (.aload_n 1, 1) := by decide +kernel
theorem dX5_read_11 : decode cX5_read 11 = .ok (.iconst 0, 1) := by decide +kernel
theorem dX5_read_12 : decode cX5_read 12 = .ok (.invokevirtual 39, 3) := by decide +kernel
theorem dX5_read_15 : decode cX5_read 15 = .ok (.ifCond .eq 10, 3) := by decide +kernel
theorem dX5_read_18 : decode cX5_read 18 = .ok (.aload_n 0, 1) := by decide +kernel
theorem dX5_read_19 : decode cX5_read 19 = .ok (.iconst 0, 1) := by decide +kernel
theorem dX5_read_20 : decode cX5_read 20 = .ok (.invokevirtual 43, 3) := by decide +kernel
theorem dX5_read_23 : decode cX5_read 23 = .ok (.iconst 0, 1) := by decide +kernel
theorem dX5_read_24 : decode cX5_read 24 = .ok (.ireturn, 1) := by decide +kernel
theorem dX6_clear_0 : decode cX6_clear 0 = .ok (.aload_n 0, 1) := by decide +kernel
theorem dX6_clear_1 : decode cX6_clear 1 = .ok (.iconst 0, 1) := by decide +kernel
theorem dX6_clear_2 : decode cX6_clear 2 = .ok (.putfield 30, 3) := by decide +kernel
theorem dX6_clear_5 : decode cX6_clear 5 = .ok (.aload_n 0, 1) := by decide +kernel
theorem dX6_clear_6 : decode cX6_clear 6 = .ok (.iconst 0, 1) := by decide +kernel
theorem dX6_clear_7 : decode cX6_clear 7 = .ok (.putfield 34, 3) := by decide +kernel
theorem dX6_clear_10 : decode cX6_clear 10 = .ok (.aload_n 0, 1) := by decide +kernel
theorem dX6_clear_11 : decode cX6_clear 11 = .ok (.iconst 0, 1) := by decide +kernel
theorem dX6_clear_12 : decode cX6_clear 12 = .ok (.putfield 37, 3) := by decide +kernel
theorem dX6_clear_15 : decode cX6_clear 15 = .ok (.aload_n 0, 1) := by decide +kernel
theorem dX6_clear_16 : decode cX6_clear 16 = .ok (.iconst 0, 1) := by decide +kernel
theorem dX6_clear_17 : decode cX6_clear 17 = .ok (.putfield 40, 3) := by decide +kernel
theorem dX6_clear_20 : decode cX6_clear 20 = .ok (.aload_n 0, 1) := by decide +kernel
theorem dX6_clear_21 : decode cX6_clear 21 = .ok (.iconst 0, 1) := by decide +kernel
theorem dX6_clear_22 : decode cX6_clear 22 = .ok (.putfield 43, 3) := by decide +kernel
theorem dX6_clear_25 : decode cX6_clear 25 = .ok (.return_, 1) := by decide +kernel
theorem dX6_copy_0 : decode cX6_copy 0 = .ok (.aload_n 0, 1) := by decide +kernel
theorem dX6_copy_1 : decode cX6_copy 1 = .ok (.aload_n 1, 1) := by decide +kernel
theorem dX6_copy_2 : decode cX6_copy 2 = .ok (.getfield 30, 3) := by decide +kernel
theorem dX6_copy_5 : decode cX6_copy 5 = .ok (.putfield 30, 3) := by decide +kernel
theorem dX6_copy_8 : decode cX6_copy 8 = .ok (.aload_n 0, 1) := by decide +kernel
theorem dX6_copy_9 : decode cX6_copy 9 = .ok (.aload_n 1, 1) := by decide +kernel
theorem dX6_copy_10 : decode cX6_copy 10 = .ok (.getfield 34, 3) := by decide +kernel
theorem dX6_copy_13 : decode cX6_copy 13 = .ok (.putfield 34, 3) := by decide +kernel
theorem dX6_copy_16 : decode cX6_copy 16 = .ok (.aload_n 0, 1) := by decide +kernel
theorem dX6_copy_17 : decode cX6_copy 17 = .ok (.aload_n 1, 1) := by decide +kernel
theorem dX6_copy_18 : decode cX6_copy 18 = .ok (.getfield 37, 3) := by decide +kernel
theorem dX6_copy_21 : decode cX6_copy 21 = .ok (.putfield 37, 3) := by decide +kernel
theorem dX6_copy_24 : decode cX6_copy 24 = .ok (.aload_n 0, 1) := by decide +kernel
theorem dX6_copy_25 : decode cX6_copy 25 = .ok (.aload_n 1, 1) := by decide +kernel
theorem dX6_copy_26 : decode cX6_copy 26 = .ok (.getfield 40, 3) := by decide +kernel
theorem dX6_copy_29 : decode cX6_copy 29 = .ok (.putfield 40, 3) := by decide +kernel
theorem dX6_copy_32 : decode cX6_copy 32 = .ok (.aload_n 0, 1) := by decide +kernel
theorem dX6_copy_33 : decode cX6_copy 33 = .ok (.aload_n 1, 1) := by decide +kernel
theorem dX6_copy_34 : decode cX6_copy 34 = .ok (.getfield 43, 3) := by decide +kernel
theorem dX6_copy_37 : decode cX6_copy 37 = .ok (.putfield 43, 3) := by decide +kernel
theorem dX6_copy_40 : decode cX6_copy 40 = .ok (.iconst 0, 1) := by decide +kernel
theorem dX6_copy_41 : decode cX6_copy 41 = .ok (.istore_n 2, 1) := by decide +kernel
theorem dX6_copy_42 : decode cX6_copy 42 = .ok (.iload_n 2, 1) := by decide +kernel
theorem dX6_copy_43 : decode cX6_copy 43 = .ok (.aload_n 0, 1) := by decide +kernel
theorem dX6_copy_44 : decode cX6_copy 44 = .ok (.getfield 30, 3) := by decide +kernel
theorem dX6_copy_47 : decode cX6_copy 47 = .ok (.if_icmp .ge 87, 3) := by decide +kernel
theorem dX6_copy_134 : decode cX6_copy 134 = .ok (.return_, 1) := by decide +kernel
theorem dX6_has_0 : decode cX6_has 0 = .ok (.iload_n 1, 1) := by decide +kernel
theorem dX6_has_1 : decode cX6_has 1 = .ok (.ifCond .lt 15, 3) := by decide +kernel
theorem dX6_has_4 : decode cX6_has 4 = .ok (.iload_n 1, 1) := by decide +kernel
theorem dX6_has_5 : decode cX6_has 5 = .ok (.aload_n 0, 1) := by decide +kernel
theorem dX6_has_6 : decode cX6_has 6 = .ok (.getfield 30, 3) := by decide +kernel
theorem dX6_has_9 : decode cX6_has 9 = .ok (.if_icmp .ge 7, 3) := by decide +kernel
theorem dX6_has_12 : decode cX6_has 12 = .ok (.iconst 1, 1) := by decide +kernel
theorem dX6_has_13 : decode cX6_has 13 = .ok (.goto 4, 3) := by decide +kernel
theorem dX6_has_16 : decode cX6_has 16 = .ok (.iconst 0, 1) := by decide +kernel
theorem dX6_has_17 : decode cX6_has 17 = .ok (.ireturn, 1) := by decide +kernel
theorem dX6_holdBack_0 : decode cX6_holdBack 0 = .ok (.iconst 0, 1) := by decide +kernel
theorem dX6_holdBack_1 : decode cX6_holdBack 1 = .ok (.istore_n 2, 1) := by decide +kernel
theorem dX6_holdBack_2 : decode cX6_holdBack 2 = .ok (.iload_n 2, 1) := by decide +kernel
theorem dX6_holdBack_3 : decode cX6_holdBack 3 = .ok (.aload_n 0, 1) := by decide +kernel
theorem dX6_holdBack_4 : decode cX6_holdBack 4 = .ok (.getfield 30, 3) := by decide +kernel
theorem dX6_holdBack_7 : decode cX6_holdBack 7 = .ok (.if_icmp .ge 40, 3) := by decide +kernel
theorem dX6_holdBack_47 : decode cX6_holdBack 47 = .ok (.return_, 1) := by decide +kernel
theorem dX6_isOnWay_0 : decode cX6_isOnWay 0 = .ok (.iload_n 1, 1) := by decide +kernel
theorem dX6_isOnWay_1 : decode cX6_isOnWay 1 = .ok (.ifCond .lt 31, 3) := by decide +kernel
theorem dX6_isOnWay_4 : decode cX6_isOnWay 4 = .ok (.iload_n 1, 1) := by decide +kernel
theorem dX6_isOnWay_5 : decode cX6_isOnWay 5 = .ok (.aload_n 0, 1) := by decide +kernel
theorem dX6_isOnWay_6 : decode cX6_isOnWay 6 = .ok (.getfield 30, 3) := by decide +kernel
theorem dX6_isOnWay_9 : decode cX6_isOnWay 9 = .ok (.if_icmp .ge 23, 3) := by decide +kernel
theorem dX6_isOnWay_12 : decode cX6_isOnWay 12 = .ok (.aload_n 0, 1) := by decide +kernel
theorem dX6_isOnWay_13 : decode cX6_isOnWay 13 = .ok (.getfield 40, 3) := by decide +kernel
theorem dX6_isOnWay_16 : decode cX6_isOnWay 16 = .ok (.aload_n 0, 1) := by decide +kernel
theorem dX6_isOnWay_17 : decode cX6_isOnWay 17 = .ok (.getfield 43, 3) := by decide +kernel
theorem dX6_isOnWay_20 : decode cX6_isOnWay 20 = .ok (.ior, 1) := by decide +kernel
theorem dX6_isOnWay_21 : decode cX6_isOnWay 21 = .ok (.iload_n 1, 1) := by decide +kernel
theorem dX6_isOnWay_22 : decode cX6_isOnWay 22 = .ok (.ishr, 1) := by decide +kernel
theorem dX6_isOnWay_23 : decode cX6_isOnWay 23 = .ok (.iconst 1, 1) := by decide +kernel
theorem dX6_isOnWay_24 : decode cX6_isOnWay 24 = .ok (.iand, 1) := by decide +kernel
theorem dX6_isOnWay_25 : decode cX6_isOnWay 25 = .ok (.ifCond .ne 7, 3) := by decide +kernel
theorem dX6_isOnWay_28 : decode cX6_isOnWay 28 = .ok (.iconst 1, 1) := by decide +kernel
theorem dX6_isOnWay_29 : decode cX6_isOnWay 29 = .ok (.goto 4, 3) := by decide +kernel
theorem dX6_isOnWay_32 : decode cX6_isOnWay 32 = .ok (.iconst 0, 1) := by decide +kernel
theorem dX6_isOnWay_33 : decode cX6_isOnWay 33 = .ok (.ireturn, 1) := by decide +kernel
theorem dX6_onWay_0 : decode cX6_onWay 0 = .ok (.iconst 1, 1) := by decide +kernel
theorem dX6_onWay_1 : decode cX6_onWay 1 = .ok (.aload_n 0, 1) := by decide +kernel
theorem dX6_onWay_2 : decode cX6_onWay 2 = .ok (.getfield 30, 3) := by decide +kernel
theorem dX6_onWay_5 : decode cX6_onWay 5 = .ok (.ishl, 1) := by decide +kernel
theorem dX6_onWay_6 : decode cX6_onWay 6 = .ok (.iconst 1, 1) := by decide +kernel
theorem dX6_onWay_7 : decode cX6_onWay 7 = .ok (.isub, 1) := by decide +kernel
theorem dX6_onWay_8 : decode cX6_onWay 8 = .ok (.aload_n 0, 1) := by decide +kernel
theorem dX6_onWay_9 : decode cX6_onWay 9 = .ok (.getfield 40, 3) := by decide +kernel
theorem dX6_onWay_12 : decode cX6_onWay 12 = .ok (.aload_n 0, 1) := by decide +kernel
theorem dX6_onWay_13 : decode cX6_onWay 13 = .ok (.getfield 43, 3) := by decide +kernel
theorem dX6_onWay_16 : decode cX6_onWay 16 = .ok (.ior, 1) := by decide +kernel
theorem dX6_onWay_17 : decode cX6_onWay 17 = .ok (.iconst (-1), 1) := by decide +kernel
theorem dX6_onWay_18 : decode cX6_onWay 18 = .ok (.ixor, 1) := by decide +kernel
theorem dX6_onWay_19 : decode cX6_onWay 19 = .ok (.iand, 1) := by decide +kernel
theorem dX6_onWay_20 : decode cX6_onWay 20 = .ok (.ireturn, 1) := by decide +kernel
theorem dX6_spotOf_0 : decode cX6_spotOf 0 = .ok (.iload_n 1, 1) := by decide +kernel
theorem dX6_spotOf_1 : decode cX6_spotOf 1 = .ok (.ifCond .lt 18, 3) := by decide +kernel
theorem dX6_spotOf_4 : decode cX6_spotOf 4 = .ok (.iload_n 1, 1) := by decide +kernel
theorem dX6_spotOf_5 : decode cX6_spotOf 5 = .ok (.bipush 6, 2) := by decide +kernel
theorem dX6_spotOf_7 : decode cX6_spotOf 7 = .ok (.if_icmp .ge 12, 3) := by decide +kernel
theorem dX6_spotOf_10 : decode cX6_spotOf 10 = .ok (.aload_n 0, 1) := by decide +kernel
theorem dX6_spotOf_11 : decode cX6_spotOf 11 = .ok (.getfield 9, 3) := by decide +kernel
theorem dX6_spotOf_14 : decode cX6_spotOf 14 = .ok (.iload_n 1, 1) := by decide +kernel
theorem dX6_spotOf_15 : decode cX6_spotOf 15 = .ok (.iaload, 1) := by decide +kernel
theorem dX6_spotOf_16 : decode cX6_spotOf 16 = .ok (.goto 4, 3) := by decide +kernel
theorem dX6_spotOf_20 : decode cX6_spotOf 20 = .ok (.ireturn, 1) := by decide +kernel
theorem dX7_addFour_0 : decode cX7_addFour 0 = .ok (.aload_n 0, 1) := by decide +kernel
theorem dX7_addFour_1 : decode cX7_addFour 1 = .ok (.getfield 15, 3) := by decide +kernel
theorem dX7_addFour_4 : decode cX7_addFour 4 = .ok (.ifCond .lt 12, 3) := by decide +kernel
theorem dX7_addFour_7 : decode cX7_addFour 7 = .ok (.aload_n 0, 1) := by decide +kernel
theorem dX7_addFour_8 : decode cX7_addFour 8 = .ok (.getfield 15, 3) := by decide +kernel
theorem dX7_addFour_11 : decode cX7_addFour 11 = .ok (.bipush 76, 2) := by decide +kernel
theorem dX7_addFour_13 : decode cX7_addFour 13 = .ok (.if_icmp .le 5, 3) := by decide +kernel
theorem dX7_addFour_18 : decode cX7_addFour 18 = .ok (.aload_n 0, 1) := by decide +kernel
theorem dX7_addFour_19 : decode cX7_addFour 19 = .ok (.getfield 11, 3) := by decide +kernel
theorem dX7_addFour_22 : decode cX7_addFour 22 = .ok (.aload_n 0, 1) := by decide +kernel
theorem dX7_addFour_23 : decode cX7_addFour 23 = .ok (.getfield 15, 3) := by decide +kernel
theorem dX7_addFour_26 : decode cX7_addFour 26 = .ok (.iload_n 1, 1) := by decide +kernel
theorem dX7_addFour_27 : decode cX7_addFour 27 = .ok (.bipush 24, 2) := by decide +kernel
theorem dX7_addFour_29 : decode cX7_addFour 29 = .ok (.iushr, 1) := by decide +kernel
theorem dX7_addFour_30 : decode cX7_addFour 30 = .ok (.sipush 255, 3) := by decide +kernel
theorem dX7_addFour_33 : decode cX7_addFour 33 = .ok (.iand, 1) := by decide +kernel
theorem dX7_addFour_34 : decode cX7_addFour 34 = .ok (.iastore, 1) := by decide +kernel
theorem dX7_addFour_35 : decode cX7_addFour 35 = .ok (.aload_n 0, 1) := by decide +kernel
theorem dX7_addFour_36 : decode cX7_addFour 36 = .ok (.getfield 11, 3) := by decide +kernel
theorem dX7_addFour_39 : decode cX7_addFour 39 = .ok (.aload_n 0, 1) := by decide +kernel
theorem dX7_addFour_40 : decode cX7_addFour 40 = .ok (.getfield 15, 3) := by decide +kernel
theorem dX7_addFour_43 : decode cX7_addFour 43 = .ok (.iconst 1, 1) := by decide +kernel
theorem dX7_addFour_44 : decode cX7_addFour 44 = .ok (.iadd, 1) := by decide +kernel
theorem dX7_addFour_45 : decode cX7_addFour 45 = .ok (.iload_n 1, 1) := by decide +kernel
theorem dX7_addFour_46 : decode cX7_addFour 46 = .ok (.bipush 16, 2) := by decide +kernel
theorem dX7_addFour_48 : decode cX7_addFour 48 = .ok (.iushr, 1) := by decide +kernel
theorem dX7_addFour_49 : decode cX7_addFour 49 = .ok (.sipush 255, 3) := by decide +kernel
theorem dX7_addFour_52 : decode cX7_addFour 52 = .ok (.iand, 1) := by decide +kernel
theorem dX7_addFour_53 : decode cX7_addFour 53 = .ok (.iastore, 1) := by decide +kernel
theorem dX7_addFour_54 : decode cX7_addFour 54 = .ok (.aload_n 0, 1) := by decide +kernel
theorem dX7_addFour_55 : decode cX7_addFour 55 = .ok (.getfield 11, 3) := by decide +kernel
theorem dX7_addFour_58 : decode cX7_addFour 58 = .ok (.aload_n 0, 1) := by decide +kernel
theorem dX7_addFour_59 : decode cX7_addFour 59 = .ok (.getfield 15, 3) := by decide +kernel
theorem dX7_addFour_62 : decode cX7_addFour 62 = .ok (.iconst 2, 1) := by decide +kernel
theorem dX7_addFour_63 : decode cX7_addFour 63 = .ok (.iadd, 1) := by decide +kernel
theorem dX7_addFour_64 : decode cX7_addFour 64 = .ok (.iload_n 1, 1) := by decide +kernel
theorem dX7_addFour_65 : decode cX7_addFour 65 = .ok (.bipush 8, 2) := by decide +kernel
theorem dX7_addFour_67 : decode cX7_addFour 67 = .ok (.iushr, 1) := by decide +kernel
theorem dX7_addFour_68 : decode cX7_addFour 68 = .ok (.sipush 255, 3) := by decide +kernel
theorem dX7_addFour_71 : decode cX7_addFour 71 = .ok (.iand, 1) := by decide +kernel
theorem dX7_addFour_72 : decode cX7_addFour 72 = .ok (.iastore, 1) := by decide +kernel
theorem dX7_addFour_73 : decode cX7_addFour 73 = .ok (.aload_n 0, 1) := by decide +kernel
theorem dX7_addFour_74 : decode cX7_addFour 74 = .ok (.getfield 11, 3) := by decide +kernel
theorem dX7_addFour_77 : decode cX7_addFour 77 = .ok (.aload_n 0, 1) := by decide +kernel
theorem dX7_addFour_78 : decode cX7_addFour 78 = .ok (.getfield 15, 3) := by decide +kernel
theorem dX7_addFour_81 : decode cX7_addFour 81 = .ok (.iconst 3, 1) := by decide +kernel
theorem dX7_addFour_82 : decode cX7_addFour 82 = .ok (.iadd, 1) := by decide +kernel
theorem dX7_addFour_83 : decode cX7_addFour 83 = .ok (.iload_n 1, 1) := by decide +kernel
theorem dX7_addFour_84 : decode cX7_addFour 84 = .ok (.sipush 255, 3) := by decide +kernel
theorem dX7_addFour_87 : decode cX7_addFour 87 = .ok (.iand, 1) := by decide +kernel
theorem dX7_addFour_88 : decode cX7_addFour 88 = .ok (.iastore, 1) := by decide +kernel
theorem dX7_addFour_89 : decode cX7_addFour 89 = .ok (.aload_n 0, 1) := by decide +kernel
theorem dX7_addFour_90 : decode cX7_addFour 90 = .ok (.dup, 1) := by decide +kernel
theorem dX7_addFour_91 : decode cX7_addFour 91 = .ok (.getfield 15, 3) := by decide +kernel
theorem dX7_addFour_94 : decode cX7_addFour 94 = .ok (.iconst 4, 1) := by decide +kernel
theorem dX7_addFour_95 : decode cX7_addFour 95 = .ok (.iadd, 1) := by decide +kernel
theorem dX7_addFour_96 : decode cX7_addFour 96 = .ok (.putfield 15, 3) := by decide +kernel
theorem dX7_addFour_99 : decode cX7_addFour 99 = .ok (.iconst 1, 1) := by decide +kernel
theorem dX7_addFour_100 : decode cX7_addFour 100 = .ok (.ireturn, 1) := by decide +kernel
theorem dX7_cut_0 : decode cX7_cut 0 = .ok (.iload_n 1, 1) := by decide +kernel
theorem dX7_cut_1 : decode cX7_cut 1 = .ok (.ifCond .lt 11, 3) := by decide +kernel
theorem dX7_cut_4 : decode cX7_cut 4 = .ok (.iload_n 1, 1) := by decide +kernel
theorem dX7_cut_5 : decode cX7_cut 5 = .ok (.aload_n 0, 1) := by decide +kernel
theorem dX7_cut_6 : decode cX7_cut 6 = .ok (.getfield 15, 3) := by decide +kernel
theorem dX7_cut_9 : decode cX7_cut 9 = .ok (.if_icmp .le 5, 3) := by decide +kernel
theorem dX7_cut_12 : decode cX7_cut 12 = .ok (.iconst 0, 1) := by decide +kernel
theorem dX7_cut_13 : decode cX7_cut 13 = .ok (.ireturn, 1) := by decide +kernel
theorem dX7_cut_14 : decode cX7_cut 14 = .ok (.aload_n 0, 1) := by decide +kernel
theorem dX7_cut_15 : decode cX7_cut 15 = .ok (.iload_n 1, 1) := by decide +kernel
theorem dX7_cut_16 : decode cX7_cut 16 = .ok (.putfield 15, 3) := by decide +kernel
theorem dX7_cut_19 : decode cX7_cut 19 = .ok (.iconst 1, 1) := by decide +kernel
theorem dX7_cut_20 : decode cX7_cut 20 = .ok (.ireturn, 1) := by decide +kernel
theorem dX7_isOver_0 : decode cX7_isOver 0 = .ok (.iload_n 1, 1) := by decide +kernel
theorem dX7_isOver_1 : decode cX7_isOver 1 = .ok (.aload_n 0, 1) := by decide +kernel
theorem dX7_isOver_2 : decode cX7_isOver 2 = .ok (.getfield 15, 3) := by decide +kernel
theorem dX7_isOver_5 : decode cX7_isOver 5 = .ok (.if_icmp .lt 7, 3) := by decide +kernel
theorem dX7_isOver_8 : decode cX7_isOver 8 = .ok (.iconst 1, 1) := by decide +kernel
theorem dX7_isOver_9 : decode cX7_isOver 9 = .ok (.goto 4, 3) := by decide +kernel
theorem dX7_isOver_13 : decode cX7_isOver 13 = .ok (.ireturn, 1) := by decide +kernel
theorem dX7_showAtMost_0 : decode cX7_showAtMost 0 = .ok (.aload_n 0, 1) := by decide +kernel
theorem dX7_showAtMost_1 : decode cX7_showAtMost 1 = .ok (.iload_n 1, 1) := by decide +kernel
theorem dX7_showAtMost_2 : decode cX7_showAtMost 2 = .ok (.aload_n 0, 1) := by decide +kernel
theorem dX7_showAtMost_3 : decode cX7_showAtMost 3 = .ok (.getfield 15, 3) := by decide +kernel
theorem dX7_showAtMost_6 : decode cX7_showAtMost 6 = .ok (.invokestatic 19, 3) := by decide +kernel
theorem dX7_showAtMost_9 : decode cX7_showAtMost 9 = .ok (.putfield 25, 3) := by decide +kernel
theorem dX7_showAtMost_12 : decode cX7_showAtMost 12 = .ok (.return_, 1) := by decide +kernel
theorem dX8_clear_0 : decode cX8_clear 0 = .ok (.aload_n 0, 1) := by decide +kernel
theorem dX8_clear_1 : decode cX8_clear 1 = .ok (.iconst 0, 1) := by decide +kernel
theorem dX8_clear_2 : decode cX8_clear 2 = .ok (.putfield 31, 3) := by decide +kernel
theorem dX8_clear_5 : decode cX8_clear 5 = .ok (.aload_n 0, 1) := by decide +kernel
theorem dX8_clear_6 : decode cX8_clear 6 = .ok (.iconst 0, 1) := by decide +kernel
theorem dX8_clear_7 : decode cX8_clear 7 = .ok (.putfield 34, 3) := by decide +kernel
theorem dX8_clear_10 : decode cX8_clear 10 = .ok (.aload_n 0, 1) := by decide +kernel
theorem dX8_clear_11 : decode cX8_clear 11 = .ok (.iconst 0, 1) := by decide +kernel
theorem dX8_clear_12 : decode cX8_clear 12 = .ok (.putfield 37, 3) := by decide +kernel
theorem dX8_clear_15 : decode cX8_clear 15 = .ok (.aload_n 0, 1) := by decide +kernel
theorem dX8_clear_16 : decode cX8_clear 16 = .ok (.iconst 1, 1) := by decide +kernel
theorem dX8_clear_17 : decode cX8_clear 17 = .ok (.putfield 27, 3) := by decide +kernel
theorem dX8_clear_20 : decode cX8_clear 20 = .ok (.iconst 0, 1) := by decide +kernel
theorem dX8_clear_21 : decode cX8_clear 21 = .ok (.istore_n 1, 1) := by decide +kernel
theorem dX8_clear_22 : decode cX8_clear 22 = .ok (.iload_n 1, 1) := by decide +kernel
theorem dX8_clear_23 : decode cX8_clear 23 = .ok (.bipush 12, 2) := by decide +kernel
theorem dX8_clear_25 : decode cX8_clear 25 = .ok (.if_icmp .ge 16, 3) := by decide +kernel
theorem dX8_clear_28 : decode cX8_clear 28 = .ok (.aload_n 0, 1) := by decide +kernel
theorem dX8_clear_29 : decode cX8_clear 29 = .ok (.getfield 24, 3) := by decide +kernel
theorem dX8_clear_32 : decode cX8_clear 32 = .ok (.iload_n 1, 1) := by decide +kernel
theorem dX8_clear_33 : decode cX8_clear 33 = .ok (.iconst (-1), 1) := by decide +kernel
theorem dX8_clear_34 : decode cX8_clear 34 = .ok (.iastore, 1) := by decide +kernel
theorem dX8_clear_35 : decode cX8_clear 35 = .ok (.iinc 1 1, 3) := by decide +kernel
theorem dX8_clear_38 : decode cX8_clear 38 = .ok (.goto (-16), 3) := by decide +kernel
theorem dX8_clear_41 : decode cX8_clear 41 = .ok (.return_, 1) := by decide +kernel
theorem dX8_copy_0 : decode cX8_copy 0 = .ok (.aload_n 0, 1) := by decide +kernel
theorem dX8_copy_1 : decode cX8_copy 1 = .ok (.aload_n 1, 1) := by decide +kernel
theorem dX8_copy_2 : decode cX8_copy 2 = .ok (.getfield 31, 3) := by decide +kernel
theorem dX8_copy_5 : decode cX8_copy 5 = .ok (.putfield 31, 3) := by decide +kernel
theorem dX8_copy_8 : decode cX8_copy 8 = .ok (.aload_n 0, 1) := by decide +kernel
theorem dX8_copy_9 : decode cX8_copy 9 = .ok (.aload_n 1, 1) := by decide +kernel
theorem dX8_copy_10 : decode cX8_copy 10 = .ok (.getfield 34, 3) := by decide +kernel
theorem dX8_copy_13 : decode cX8_copy 13 = .ok (.putfield 34, 3) := by decide +kernel
theorem dX8_copy_16 : decode cX8_copy 16 = .ok (.aload_n 0, 1) := by decide +kernel
theorem dX8_copy_17 : decode cX8_copy 17 = .ok (.aload_n 1, 1) := by decide +kernel
theorem dX8_copy_18 : decode cX8_copy 18 = .ok (.getfield 37, 3) := by decide +kernel
theorem dX8_copy_21 : decode cX8_copy 21 = .ok (.putfield 37, 3) := by decide +kernel
theorem dX8_copy_24 : decode cX8_copy 24 = .ok (.aload_n 0, 1) := by decide +kernel
theorem dX8_copy_25 : decode cX8_copy 25 = .ok (.aload_n 1, 1) := by decide +kernel
theorem dX8_copy_26 : decode cX8_copy 26 = .ok (.getfield 27, 3) := by decide +kernel
theorem dX8_copy_29 : decode cX8_copy 29 = .ok (.putfield 27, 3) := by decide +kernel
theorem dX8_copy_32 : decode cX8_copy 32 = .ok (.iconst 0, 1) := by decide +kernel
theorem dX8_copy_33 : decode cX8_copy 33 = .ok (.istore_n 2, 1) := by decide +kernel
theorem dX8_copy_34 : decode cX8_copy 34 = .ok (.iload_n 2, 1) := by decide +kernel
theorem dX8_copy_35 : decode cX8_copy 35 = .ok (.bipush 12, 2) := by decide +kernel
theorem dX8_copy_37 : decode cX8_copy 37 = .ok (.if_icmp .ge 57, 3) := by decide +kernel
theorem dX8_copy_40 : decode cX8_copy 40 = .ok (.aload_n 0, 1) := by decide +kernel
theorem dX8_copy_41 : decode cX8_copy 41 = .ok (.getfield 9, 3) := by decide +kernel
theorem dX8_copy_44 : decode cX8_copy 44 = .ok (.iload_n 2, 1) := by decide +kernel
theorem dX8_copy_45 : decode cX8_copy 45 = .ok (.aload_n 1, 1) := by decide +kernel
theorem dX8_copy_46 : decode cX8_copy 46 = .ok (.getfield 9, 3) := by decide +kernel
theorem dX8_copy_49 : decode cX8_copy 49 = .ok (.iload_n 2, 1) := by decide +kernel
theorem dX8_copy_50 : decode cX8_copy 50 = .ok (.iaload, 1) := by decide +kernel
theorem dX8_copy_51 : decode cX8_copy 51 = .ok (.iastore, 1) := by decide +kernel
theorem dX8_copy_52 : decode cX8_copy 52 = .ok (.aload_n 0, 1) := by decide +kernel
theorem dX8_copy_53 : decode cX8_copy 53 = .ok (.getfield 15, 3) := by decide +kernel
theorem dX8_copy_56 : decode cX8_copy 56 = .ok (.iload_n 2, 1) := by decide +kernel
theorem dX8_copy_57 : decode cX8_copy 57 = .ok (.aload_n 1, 1) := by decide +kernel
theorem dX8_copy_58 : decode cX8_copy 58 = .ok (.getfield 15, 3) := by decide +kernel
theorem dX8_copy_61 : decode cX8_copy 61 = .ok (.iload_n 2, 1) := by decide +kernel
theorem dX8_copy_62 : decode cX8_copy 62 = .ok (.iaload, 1) := by decide +kernel
theorem dX8_copy_63 : decode cX8_copy 63 = .ok (.iastore, 1) := by decide +kernel
theorem dX8_copy_64 : decode cX8_copy 64 = .ok (.aload_n 0, 1) := by decide +kernel
theorem dX8_copy_65 : decode cX8_copy 65 = .ok (.getfield 18, 3) := by decide +kernel
theorem dX8_copy_68 : decode cX8_copy 68 = .ok (.iload_n 2, 1) := by decide +kernel
theorem dX8_copy_69 : decode cX8_copy 69 = .ok (.aload_n 1, 1) := by decide +kernel
theorem dX8_copy_70 : decode cX8_copy 70 = .ok (.getfield 18, 3) := by decide +kernel
theorem dX8_copy_73 : decode cX8_copy 73 = .ok (.iload_n 2, 1) := by decide +kernel
theorem dX8_copy_74 : decode cX8_copy 74 = .ok (.iaload, 1) := by decide +kernel
theorem dX8_copy_75 : decode cX8_copy 75 = .ok (.iastore, 1) := by decide +kernel
theorem dX8_copy_76 : decode cX8_copy 76 = .ok (.aload_n 0, 1) := by decide +kernel
theorem dX8_copy_77 : decode cX8_copy 77 = .ok (.getfield 21, 3) := by decide +kernel
theorem dX8_copy_80 : decode cX8_copy 80 = .ok (.iload_n 2, 1) := by decide +kernel
theorem dX8_copy_81 : decode cX8_copy 81 = .ok (.aload_n 1, 1) := by decide +kernel
theorem dX8_copy_82 : decode cX8_copy 82 = .ok (.getfield 21, 3) := by decide +kernel
theorem dX8_copy_85 : decode cX8_copy 85 = .ok (.iload_n 2, 1) := by decide +kernel
theorem dX8_copy_86 : decode cX8_copy 86 = .ok (.iaload, 1) := by decide +kernel
theorem dX8_copy_87 : decode cX8_copy 87 = .ok (.iastore, 1) := by decide +kernel
theorem dX8_copy_88 : decode cX8_copy 88 = .ok (.iinc 2 1, 3) := by decide +kernel
theorem dX8_copy_91 : decode cX8_copy 91 = .ok (.goto (-57), 3) := by decide +kernel
theorem dX8_copy_94 : decode cX8_copy 94 = .ok (.return_, 1) := by decide +kernel
theorem dX8_has_0 : decode cX8_has 0 = .ok (.iload_n 1, 1) := by decide +kernel
theorem dX8_has_1 : decode cX8_has 1 = .ok (.ifCond .lt 15, 3) := by decide +kernel
theorem dX8_has_4 : decode cX8_has 4 = .ok (.iload_n 1, 1) := by decide +kernel
theorem dX8_has_5 : decode cX8_has 5 = .ok (.aload_n 0, 1) := by decide +kernel
theorem dX8_has_6 : decode cX8_has 6 = .ok (.getfield 31, 3) := by decide +kernel
theorem dX8_has_9 : decode cX8_has 9 = .ok (.if_icmp .ge 7, 3) := by decide +kernel
theorem dX8_has_12 : decode cX8_has 12 = .ok (.iconst 1, 1) := by decide +kernel
theorem dX8_has_13 : decode cX8_has 13 = .ok (.goto 4, 3) := by decide +kernel
theorem dX8_has_16 : decode cX8_has 16 = .ok (.iconst 0, 1) := by decide +kernel
theorem dX8_has_17 : decode cX8_has 17 = .ok (.ireturn, 1) := by decide +kernel
theorem dX8_isFork_0 : decode cX8_isFork 0 = .ok (.iload_n 1, 1) := by decide +kernel
theorem dX8_isFork_1 : decode cX8_isFork 1 = .ok (.ifCond .lt 24, 3) := by decide +kernel
theorem dX8_isFork_4 : decode cX8_isFork 4 = .ok (.iload_n 1, 1) := by decide +kernel
theorem dX8_isFork_5 : decode cX8_isFork 5 = .ok (.bipush 12, 2) := by decide +kernel
theorem dX8_isFork_7 : decode cX8_isFork 7 = .ok (.if_icmp .ge 18, 3) := by decide +kernel
theorem dX8_isFork_10 : decode cX8_isFork 10 = .ok (.aload_n 0, 1) := by decide +kernel
theorem dX8_isFork_11 : decode cX8_isFork 11 = .ok (.getfield 34, 3) := by decide +kernel
theorem dX8_isFork_14 : decode cX8_isFork 14 = .ok (.iload_n 1, 1) := by decide +kernel
theorem dX8_isFork_15 : decode cX8_isFork 15 = .ok (.ishr, 1) := by decide +kernel
theorem dX8_isFork_16 : decode cX8_isFork 16 = .ok (.iconst 1, 1) := by decide +kernel
theorem dX8_isFork_17 : decode cX8_isFork 17 = .ok (.iand, 1) := by decide +kernel
theorem dX8_isFork_18 : decode cX8_isFork 18 = .ok (.ifCond .eq 7, 3) := by decide +kernel
theorem dX8_isFork_25 : decode cX8_isFork 25 = .ok (.iconst 0, 1) := by decide +kernel
theorem dX8_isFork_26 : decode cX8_isFork 26 = .ok (.ireturn, 1) := by decide +kernel
theorem dX8_isKitchen_0 : decode cX8_isKitchen 0 = .ok (.iload_n 1, 1) := by decide +kernel
theorem dX8_isKitchen_1 : decode cX8_isKitchen 1 = .ok (.ifCond .lt 24, 3) := by decide +kernel
theorem dX8_isKitchen_4 : decode cX8_isKitchen 4 = .ok (.iload_n 1, 1) := by decide +kernel
theorem dX8_isKitchen_5 : decode cX8_isKitchen 5 = .ok (.bipush 12, 2) := by decide +kernel
theorem dX8_isKitchen_7 : decode cX8_isKitchen 7 = .ok (.if_icmp .ge 18, 3) := by decide +kernel
theorem dX8_isKitchen_10 : decode cX8_isKitchen 10 = .ok (.aload_n 0, 1) := by decide +kernel
theorem dX8_isKitchen_11 : decode cX8_isKitchen 11 = .ok (.getfield 37, 3) := by decide +kernel
theorem dX8_isKitchen_14 : decode cX8_isKitchen 14 = .ok (.iload_n 1, 1) := by decide +kernel
theorem dX8_isKitchen_15 : decode cX8_isKitchen 15 = .ok (.ishr, 1) := by decide +kernel
theorem dX8_isKitchen_16 : decode cX8_isKitchen 16 = .ok (.iconst 1, 1) := by decide +kernel
theorem dX8_isKitchen_17 : decode cX8_isKitchen 17 = .ok (.iand, 1) := by decide +kernel
theorem dX8_isKitchen_18 : decode cX8_isKitchen 18 = .ok (.ifCond .eq 7, 3) := by decide +kernel
theorem dX8_isKitchen_25 : decode cX8_isKitchen 25 = .ok (.iconst 0, 1) := by decide +kernel
theorem dX8_isKitchen_26 : decode cX8_isKitchen 26 = .ok (.ireturn, 1) := by decide +kernel
theorem dX8_nextSet_0 : decode cX8_nextSet 0 = .ok (.iload_n 1, 1) := by decide +kernel
theorem dX8_nextSet_1 : decode cX8_nextSet 1 = .ok (.aload_n 0, 1) := by decide +kernel
theorem dX8_nextSet_2 : decode cX8_nextSet 2 = .ok (.getfield 34, 3) := by decide +kernel
theorem dX8_nextSet_5 : decode cX8_nextSet 5 = .ok (.isub, 1) := by decide +kernel
theorem dX8_nextSet_6 : decode cX8_nextSet 6 = .ok (.aload_n 0, 1) := by decide +kernel
theorem dX8_nextSet_7 : decode cX8_nextSet 7 = .ok (.getfield 34, 3) := by decide +kernel
theorem dX8_nextSet_10 : decode cX8_nextSet 10 = .ok (.iand, 1) := by decide +kernel
theorem dX8_nextSet_11 : decode cX8_nextSet 11 = .ok (.ireturn, 1) := by decide +kernel
theorem dX8_read_0 : decode cX8_read 0 = .ok (.aload_n 0, 1) := by decide +kernel
theorem dX8_read_1 : decode cX8_read 1 = .ok (.invokevirtual 40, 3) := by decide +kernel
theorem dX8_read_4 : decode cX8_read 4 = .ok (.aload_n 1, 1) := by decide +kernel
theorem dX8_read_5 : decode cX8_read 5 = .ok (.bipush 76, 2) := by decide +kernel
theorem dX8_read_7 : decode cX8_read 7 = .ok (.invokevirtual 43, 3) := by decide +kernel
theorem dX8_read_10 : decode cX8_read 10 = .ok (.aload_n 1, 1) := by decide +kernel
theorem dX8_read_11 : decode cX8_read 11 = .ok (.iconst 0, 1) := by decide +kernel
theorem dX8_read_12 : decode cX8_read 12 = .ok (.invokevirtual 49, 3) := by decide +kernel
theorem dX8_read_15 : decode cX8_read 15 = .ok (.ifCond .eq 5, 3) := by decide +kernel
theorem dX8_read_18 : decode cX8_read 18 = .ok (.iconst 0, 1) := by decide +kernel
theorem dX8_read_19 : decode cX8_read 19 = .ok (.ireturn, 1) := by decide +kernel
theorem dX9_begin_0 : decode cX9_begin 0 = .ok (.aload_n 0, 1) := by decide +kernel
theorem dX9_begin_1 : decode cX9_begin 1 = .ok (.getfield 29, 3) := by decide +kernel
theorem dX9_begin_4 : decode cX9_begin 4 = .ok (.aload_n 0, 1) := by decide +kernel
theorem dX9_begin_5 : decode cX9_begin 5 = .ok (.getfield 25, 3) := by decide +kernel
theorem dX9_begin_8 : decode cX9_begin 8 = .ok (.invokevirtual 63, 3) := by decide +kernel
theorem dX9_begin_11 : decode cX9_begin 11 = .ok (.aload_n 0, 1) := by decide +kernel
theorem dX9_begin_12 : decode cX9_begin 12 = .ok (.getfield 29, 3) := by decide +kernel
theorem dX9_begin_15 : decode cX9_begin 15 = .ok (.iload_n 1, 1) := by decide +kernel
theorem dX9_begin_16 : decode cX9_begin 16 = .ok (.putfield 77, 3) := by decide +kernel
theorem dX9_begin_19 : decode cX9_begin 19 = .ok (.aload_n 0, 1) := by decide +kernel
theorem dX9_begin_20 : decode cX9_begin 20 = .ok (.getfield 36, 3) := by decide +kernel
theorem dX9_begin_23 : decode cX9_begin 23 = .ok (.iconst 0, 1) := by decide +kernel
theorem dX9_begin_24 : decode cX9_begin 24 = .ok (.putfield 80, 3) := by decide +kernel
theorem dX9_begin_27 : decode cX9_begin 27 = .ok (.aload_n 0, 1) := by decide +kernel
theorem dX9_begin_28 : decode cX9_begin 28 = .ok (.getfield 36, 3) := by decide +kernel
theorem dX9_begin_31 : decode cX9_begin 31 = .ok (.iconst 0, 1) := by decide +kernel
theorem dX9_begin_32 : decode cX9_begin 32 = .ok (.putfield 83, 3) := by decide +kernel
theorem dX9_begin_35 : decode cX9_begin 35 = .ok (.return_, 1) := by decide +kernel
theorem dX9_fitAll_0 : decode cX9_fitAll 0 = .ok (.iconst 0, 1) := by decide +kernel
theorem dX9_fitAll_1 : decode cX9_fitAll 1 = .ok (.istore_n 1, 1) := by decide +kernel
theorem dX9_fitAll_2 : decode cX9_fitAll 2 = .ok (.iconst 0, 1) := by decide +kernel
theorem dX9_fitAll_3 : decode cX9_fitAll 3 = .ok (.istore_n 2, 1) := by decide +kernel
theorem dX9_fitAll_4 : decode cX9_fitAll 4 = .ok (.iload_n 2, 1) := by decide +kernel
theorem dX9_fitAll_5 : decode cX9_fitAll 5 = .ok (.aload_n 0, 1) := by decide +kernel
theorem dX9_fitAll_6 : decode cX9_fitAll 6 = .ok (.getfield 32, 3) := by decide +kernel
theorem dX9_fitAll_9 : decode cX9_fitAll 9 = .ok (.getfield 118, 3) := by decide +kernel
theorem dX9_fitAll_12 : decode cX9_fitAll 12 = .ok (.if_icmp .ge 24, 3) := by decide +kernel
theorem dX9_fitAll_15 : decode cX9_fitAll 15 = .ok (.aload_n 0, 1) := by decide +kernel
theorem dX9_fitAll_16 : decode cX9_fitAll 16 = .ok (.iload_n 1, 1) := by decide +kernel
theorem dX9_fitAll_17 : decode cX9_fitAll 17 = .ok (.iconst 1, 1) := by decide +kernel
theorem dX9_fitAll_18 : decode cX9_fitAll 18 = .ok (.invokevirtual 142, 3) := by decide +kernel
theorem dX9_fitAll_21 : decode cX9_fitAll 21 = .ok (.aload_n 0, 1) := by decide +kernel
theorem dX9_fitAll_22 : decode cX9_fitAll 22 = .ok (.getfield 32, 3) := by decide +kernel
theorem dX9_fitAll_25 : decode cX9_fitAll 25 = .ok (.iload_n 1, 1) := by decide +kernel
theorem dX9_fitAll_26 : decode cX9_fitAll 26 = .ok (.invokevirtual 125, 3) := by decide +kernel
theorem dX9_fitAll_29 : decode cX9_fitAll 29 = .ok (.istore_n 1, 1) := by decide +kernel
theorem dX9_fitAll_30 : decode cX9_fitAll 30 = .ok (.iinc 2 1, 3) := by decide +kernel
theorem dX9_fitAll_33 : decode cX9_fitAll 33 = .ok (.goto (-29), 3) := by decide +kernel
theorem dX9_fitAll_36 : decode cX9_fitAll 36 = .ok (.return_, 1) := by decide +kernel
theorem dX9_fits_0 : decode cX9_fits 0 = .ok (.iload_n 1, 1) := by decide +kernel
theorem dX9_fits_1 : decode cX9_fits 1 = .ok (.ifCond .lt 23, 3) := by decide +kernel
theorem dX9_fits_4 : decode cX9_fits 4 = .ok (.iload_n 1, 1) := by decide +kernel
theorem dX9_fits_5 : decode cX9_fits 5 = .ok (.sipush 4096, 3) := by decide +kernel
theorem dX9_fits_8 : decode cX9_fits 8 = .ok (.if_icmp .ge 16, 3) := by decide +kernel
theorem dX9_fits_11 : decode cX9_fits 11 = .ok (.aload_n 0, 1) := by decide +kernel
theorem dX9_fits_12 : decode cX9_fits 12 = .ok (.getfield 15, 3) := by decide +kernel
theorem dX9_fits_15 : decode cX9_fits 15 = .ok (.iload_n 1, 1) := by decide +kernel
theorem dX9_fits_16 : decode cX9_fits 16 = .ok (.baload, 1) := by decide +kernel
theorem dX9_fits_17 : decode cX9_fits 17 = .ok (.ifCond .eq 7, 3) := by decide +kernel
theorem dX9_fits_20 : decode cX9_fits 20 = .ok (.iconst 1, 1) := by decide +kernel
theorem dX9_fits_21 : decode cX9_fits 21 = .ok (.goto 4, 3) := by decide +kernel
theorem dX9_fits_25 : decode cX9_fits 25 = .ok (.ireturn, 1) := by decide +kernel
theorem dX9_forgetSets_0 : decode cX9_forgetSets 0 = .ok (.iconst 0, 1) := by decide +kernel
theorem dX9_forgetSets_1 : decode cX9_forgetSets 1 = .ok (.istore_n 1, 1) := by decide +kernel
theorem dX9_forgetSets_2 : decode cX9_forgetSets 2 = .ok (.iconst 0, 1) := by decide +kernel
theorem dX9_forgetSets_3 : decode cX9_forgetSets 3 = .ok (.istore_n 2, 1) := by decide +kernel
theorem dX9_forgetSets_4 : decode cX9_forgetSets 4 = .ok (.iload_n 2, 1) := by decide +kernel
theorem dX9_forgetSets_5 : decode cX9_forgetSets 5 = .ok (.aload_n 0, 1) := by decide +kernel
theorem dX9_forgetSets_6 : decode cX9_forgetSets 6 = .ok (.getfield 32, 3) := by decide +kernel
theorem dX9_forgetSets_9 : decode cX9_forgetSets 9 = .ok (.getfield 118, 3) := by decide +kernel
theorem dX9_forgetSets_12 : decode cX9_forgetSets 12 = .ok (.if_icmp .ge 25, 3) := by decide +kernel
theorem dX9_forgetSets_15 : decode cX9_forgetSets 15 = .ok (.aload_n 0, 1) := by decide +kernel
theorem dX9_forgetSets_16 : decode cX9_forgetSets 16 = .ok (.iload_n 1, 1) := by decide +kernel
theorem dX9_forgetSets_17 : decode cX9_forgetSets 17 = .ok (.bipush (-2), 2) := by decide +kernel
theorem dX9_forgetSets_19 : decode cX9_forgetSets 19 = .ok (.invokevirtual 121, 3) := by decide +kernel
theorem dX9_forgetSets_22 : decode cX9_forgetSets 22 = .ok (.aload_n 0, 1) := by decide +kernel
theorem dX9_forgetSets_23 : decode cX9_forgetSets 23 = .ok (.getfield 32, 3) := by decide +kernel
theorem dX9_forgetSets_26 : decode cX9_forgetSets 26 = .ok (.iload_n 1, 1) := by decide +kernel
theorem dX9_forgetSets_27 : decode cX9_forgetSets 27 = .ok (.invokevirtual 125, 3) := by decide +kernel
theorem dX9_forgetSets_30 : decode cX9_forgetSets 30 = .ok (.istore_n 1, 1) := by decide +kernel
theorem dX9_forgetSets_31 : decode cX9_forgetSets 31 = .ok (.iinc 2 1, 3) := by decide +kernel
theorem dX9_forgetSets_34 : decode cX9_forgetSets 34 = .ok (.goto (-30), 3) := by decide +kernel
theorem dX9_forgetSets_37 : decode cX9_forgetSets 37 = .ok (.return_, 1) := by decide +kernel
theorem dX9_go_0 : decode cX9_go 0 = .ok (.aload_n 0, 1) := by decide +kernel
theorem dX9_go_1 : decode cX9_go 1 = .ok (.iload_n 1, 1) := by decide +kernel
theorem dX9_go_2 : decode cX9_go 2 = .ok (.invokevirtual 86, 3) := by decide +kernel
theorem dX9_go_5 : decode cX9_go 5 = .ok (.iconst 0, 1) := by decide +kernel
theorem dX9_go_6 : decode cX9_go 6 = .ok (.istore_n 2, 1) := by decide +kernel
theorem dX9_go_7 : decode cX9_go 7 = .ok (.iload_n 2, 1) := by decide +kernel
theorem dX9_go_8 : decode cX9_go 8 = .ok (.sipush 300, 3) := by decide +kernel
theorem dX9_go_11 : decode cX9_go 11 = .ok (.if_icmp .gt 92, 3) := by decide +kernel
theorem dX9_go_14 : decode cX9_go 14 = .ok (.aload_n 0, 1) := by decide +kernel
theorem dX9_go_15 : decode cX9_go 15 = .ok (.getfield 29, 3) := by decide +kernel
theorem dX9_go_18 : decode cX9_go 18 = .ok (.getfield 89, 3) := by decide +kernel
theorem dX9_go_21 : decode cX9_go 21 = .ok (.aload_n 0, 1) := by decide +kernel
theorem dX9_go_22 : decode cX9_go 22 = .ok (.getfield 36, 3) := by decide +kernel
theorem dX9_go_25 : decode cX9_go 25 = .ok (.getfield 83, 3) := by decide +kernel
theorem dX9_go_28 : decode cX9_go 28 = .ok (.ior, 1) := by decide +kernel
theorem dX9_go_29 : decode cX9_go 29 = .ok (.aload_n 0, 1) := by decide +kernel
theorem dX9_go_30 : decode cX9_go 30 = .ok (.getfield 57, 3) := by decide +kernel
theorem dX9_go_33 : decode cX9_go 33 = .ok (.iand, 1) := by decide +kernel
theorem dX9_go_34 : decode cX9_go 34 = .ok (.ifCond .eq 5, 3) := by decide +kernel
theorem dX9_go_39 : decode cX9_go 39 = .ok (.aload_n 0, 1) := by decide +kernel
theorem dX9_go_40 : decode cX9_go 40 = .ok (.getfield 29, 3) := by decide +kernel
theorem dX9_go_43 : decode cX9_go 43 = .ok (.getfield 92, 3) := by decide +kernel
theorem dX9_go_46 : decode cX9_go 46 = .ok (.aload_n 0, 1) := by decide +kernel
theorem dX9_go_47 : decode cX9_go 47 = .ok (.getfield 57, 3) := by decide +kernel
theorem dX9_go_50 : decode cX9_go 50 = .ok (.iand, 1) := by decide +kernel
theorem dX9_go_51 : decode cX9_go 51 = .ok (.aload_n 0, 1) := by decide +kernel
theorem dX9_go_52 : decode cX9_go 52 = .ok (.getfield 57, 3) := by decide +kernel
theorem dX9_go_55 : decode cX9_go 55 = .ok (.if_icmp .ne 24, 3) := by decide +kernel
theorem dX9_go_58 : decode cX9_go 58 = .ok (.iload_n 2, 1) := by decide +kernel
theorem dX9_go_59 : decode cX9_go 59 = .ok (.bipush 16, 2) := by decide +kernel
theorem dX9_go_61 : decode cX9_go 61 = .ok (.imul, 1) := by decide +kernel
theorem dX9_go_62 : decode cX9_go 62 = .ok (.iconst 0, 1) := by decide +kernel
theorem dX9_go_63 : decode cX9_go 63 = .ok (.aload_n 0, 1) := by decide +kernel
theorem dX9_go_64 : decode cX9_go 64 = .ok (.getfield 29, 3) := by decide +kernel
theorem dX9_go_67 : decode cX9_go 67 = .ok (.aload_n 0, 1) := by decide +kernel
theorem dX9_go_68 : decode cX9_go 68 = .ok (.getfield 60, 3) := by decide +kernel
theorem dX9_go_71 : decode cX9_go 71 = .ok (.invokevirtual 95, 3) := by decide +kernel
theorem dX9_go_74 : decode cX9_go 74 = .ok (.invokestatic 99, 3) := by decide +kernel
theorem dX9_go_77 : decode cX9_go 77 = .ok (.iadd, 1) := by decide +kernel
theorem dX9_go_78 : decode cX9_go 78 = .ok (.ireturn, 1) := by decide +kernel
theorem dX9_goOn_0 : decode cX9_goOn 0 = .ok (.aload_n 0, 1) := by decide +kernel
theorem dX9_goOn_1 : decode cX9_goOn 1 = .ok (.getfield 29, 3) := by decide +kernel
theorem dX9_goOn_4 : decode cX9_goOn 4 = .ok (.aload_n 1, 1) := by decide +kernel
theorem dX9_goOn_5 : decode cX9_goOn 5 = .ok (.invokevirtual 63, 3) := by decide +kernel
theorem dX9_goOn_8 : decode cX9_goOn 8 = .ok (.iconst 0, 1) := by decide +kernel
theorem dX9_goOn_9 : decode cX9_goOn 9 = .ok (.istore_n 3, 1) := by decide +kernel
theorem dX9_goOn_10 : decode cX9_goOn 10 = .ok (.iload_n 3, 1) := by decide +kernel
theorem dX9_goOn_11 : decode cX9_goOn 11 = .ok (.iload_n 2, 1) := by decide +kernel
theorem dX9_goOn_12 : decode cX9_goOn 12 = .ok (.if_icmp .ge 30, 3) := by decide +kernel
theorem dX9_goOn_15 : decode cX9_goOn 15 = .ok (.aload_n 0, 1) := by decide +kernel
theorem dX9_goOn_16 : decode cX9_goOn 16 = .ok (.getfield 29, 3) := by decide +kernel
theorem dX9_goOn_19 : decode cX9_goOn 19 = .ok (.invokevirtual 108, 3) := by decide +kernel
theorem dX9_goOn_22 : decode cX9_goOn 22 = .ok (.ifCond .eq 20, 3) := by decide +kernel
theorem dX9_goOn_42 : decode cX9_goOn 42 = .ok (.return_, 1) := by decide +kernel
theorem dX9_outcome_0 : decode cX9_outcome 0 = .ok (.iload_n 1, 1) := by decide +kernel
theorem dX9_outcome_1 : decode cX9_outcome 1 = .ok (.ifCond .lt 10, 3) := by decide +kernel
theorem dX9_outcome_4 : decode cX9_outcome 4 = .ok (.iload_n 1, 1) := by decide +kernel
theorem dX9_outcome_5 : decode cX9_outcome 5 = .ok (.sipush 4096, 3) := by decide +kernel
theorem dX9_outcome_8 : decode cX9_outcome 8 = .ok (.if_icmp .lt 5, 3) := by decide +kernel
theorem dX9_outcome_13 : decode cX9_outcome 13 = .ok (.aload_n 0, 1) := by decide +kernel
theorem dX9_outcome_14 : decode cX9_outcome 14 = .ok (.getfield 9, 3) := by decide +kernel
theorem dX9_outcome_17 : decode cX9_outcome 17 = .ok (.iload_n 1, 1) := by decide +kernel
theorem dX9_outcome_18 : decode cX9_outcome 18 = .ok (.iaload, 1) := by decide +kernel
theorem dX9_outcome_19 : decode cX9_outcome 19 = .ok (.bipush (-2), 2) := by decide +kernel
theorem dX9_outcome_21 : decode cX9_outcome 21 = .ok (.if_icmp .ne 13, 3) := by decide +kernel
theorem dX9_outcome_24 : decode cX9_outcome 24 = .ok (.aload_n 0, 1) := by decide +kernel
theorem dX9_outcome_25 : decode cX9_outcome 25 = .ok (.iload_n 1, 1) := by decide +kernel
theorem dX9_outcome_26 : decode cX9_outcome 26 = .ok (.aload_n 0, 1) := by decide +kernel
theorem dX9_outcome_27 : decode cX9_outcome 27 = .ok (.iload_n 1, 1) := by decide +kernel
theorem dX9_outcome_28 : decode cX9_outcome 28 = .ok (.invokevirtual 128, 3) := by decide +kernel
theorem dX9_outcome_31 : decode cX9_outcome 31 = .ok (.invokevirtual 131, 3) := by decide +kernel
theorem dX9_outcome_34 : decode cX9_outcome 34 = .ok (.aload_n 0, 1) := by decide +kernel
theorem dX9_outcome_35 : decode cX9_outcome 35 = .ok (.getfield 9, 3) := by decide +kernel
theorem dX9_outcome_38 : decode cX9_outcome 38 = .ok (.iload_n 1, 1) := by decide +kernel
theorem dX9_outcome_39 : decode cX9_outcome 39 = .ok (.iaload, 1) := by decide +kernel
theorem dX9_outcome_40 : decode cX9_outcome 40 = .ok (.ireturn, 1) := by decide +kernel
theorem dX9_remember_0 : decode cX9_remember 0 = .ok (.iload_n 1, 1) := by decide +kernel
theorem dX9_remember_1 : decode cX9_remember 1 = .ok (.ifCond .lt 17, 3) := by decide +kernel
theorem dX9_remember_4 : decode cX9_remember 4 = .ok (.iload_n 1, 1) := by decide +kernel
theorem dX9_remember_5 : decode cX9_remember 5 = .ok (.sipush 4096, 3) := by decide +kernel
theorem dX9_remember_8 : decode cX9_remember 8 = .ok (.if_icmp .ge 10, 3) := by decide +kernel
theorem dX9_remember_11 : decode cX9_remember 11 = .ok (.aload_n 0, 1) := by decide +kernel
theorem dX9_remember_12 : decode cX9_remember 12 = .ok (.getfield 9, 3) := by decide +kernel
theorem dX9_remember_15 : decode cX9_remember 15 = .ok (.iload_n 1, 1) := by decide +kernel
theorem dX9_remember_16 : decode cX9_remember 16 = .ok (.iload_n 2, 1) := by decide +kernel
theorem dX9_remember_17 : decode cX9_remember 17 = .ok (.iastore, 1) := by decide +kernel
theorem dX9_remember_18 : decode cX9_remember 18 = .ok (.return_, 1) := by decide +kernel
theorem dX9_setFitting_0 : decode cX9_setFitting 0 = .ok (.iload_n 1, 1) := by decide +kernel
theorem dX9_setFitting_1 : decode cX9_setFitting 1 = .ok (.ifCond .lt 17, 3) := by decide +kernel
theorem dX9_setFitting_4 : decode cX9_setFitting 4 = .ok (.iload_n 1, 1) := by decide +kernel
theorem dX9_setFitting_5 : decode cX9_setFitting 5 = .ok (.sipush 4096, 3) := by decide +kernel
theorem dX9_setFitting_8 : decode cX9_setFitting 8 = .ok (.if_icmp .ge 10, 3) := by decide +kernel
theorem dX9_setFitting_11 : decode cX9_setFitting 11 = .ok (.aload_n 0, 1) := by decide +kernel
theorem dX9_setFitting_12 : decode cX9_setFitting 12 = .ok (.getfield 15, 3) := by decide +kernel
theorem dX9_setFitting_15 : decode cX9_setFitting 15 = .ok (.iload_n 1, 1) := by decide +kernel
theorem dX9_setFitting_16 : decode cX9_setFitting 16 = .ok (.iload_n 2, 1) := by decide +kernel
theorem dX9_setFitting_17 : decode cX9_setFitting 17 = .ok (.bastore, 1) := by decide +kernel
theorem dX9_setFitting_18 : decode cX9_setFitting 18 = .ok (.return_, 1) := by decide +kernel
theorem dX9_spread_0 : decode cX9_spread 0 = .ok (.aload_n 0, 1) := by decide +kernel
theorem dX9_spread_1 : decode cX9_spread 1 = .ok (.getfield 32, 3) := by decide +kernel
theorem dX9_spread_4 : decode cX9_spread 4 = .ok (.getfield 134, 3) := by decide +kernel
theorem dX9_spread_7 : decode cX9_spread 7 = .ok (.aload_n 0, 1) := by decide +kernel
theorem dX9_spread_8 : decode cX9_spread 8 = .ok (.getfield 36, 3) := by decide +kernel
theorem dX9_spread_11 : decode cX9_spread 11 = .ok (.getfield 80, 3) := by decide +kernel
theorem dX9_spread_14 : decode cX9_spread 14 = .ok (.iconst (-1), 1) := by decide +kernel
theorem dX9_spread_15 : decode cX9_spread 15 = .ok (.ixor, 1) := by decide +kernel
theorem dX9_spread_16 : decode cX9_spread 16 = .ok (.iand, 1) := by decide +kernel
theorem dX9_spread_17 : decode cX9_spread 17 = .ok (.istore_n 3, 1) := by decide +kernel
theorem dX9_spread_18 : decode cX9_spread 18 = .ok (.iconst 1, 1) := by decide +kernel
theorem dX9_spread_19 : decode cX9_spread 19 = .ok (.iload_n 3, 1) := by decide +kernel
theorem dX9_spread_20 : decode cX9_spread 20 = .ok (.invokestatic 137, 3) := by decide +kernel
theorem dX9_spread_23 : decode cX9_spread 23 = .ok (.ishl, 1) := by decide +kernel
theorem dX9_spread_24 : decode cX9_spread 24 = .ok (.istore 4, 2) := by decide +kernel
theorem dX9_spread_26 : decode cX9_spread 26 = .ok (.iconst 0, 1) := by decide +kernel
theorem dX9_spread_27 : decode cX9_spread 27 = .ok (.istore 5, 2) := by decide +kernel
theorem dX9_spread_29 : decode cX9_spread 29 = .ok (.iconst 0, 1) := by decide +kernel
theorem dX9_spread_30 : decode cX9_spread 30 = .ok (.istore 6, 2) := by decide +kernel
theorem dX9_spread_32 : decode cX9_spread 32 = .ok (.iload 6, 2) := by decide +kernel
theorem dX9_spread_34 : decode cX9_spread 34 = .ok (.iload 4, 2) := by decide +kernel
theorem dX9_spread_36 : decode cX9_spread 36 = .ok (.if_icmp .ge 30, 3) := by decide +kernel
theorem dX9_spread_39 : decode cX9_spread 39 = .ok (.aload_n 0, 1) := by decide +kernel
theorem dX9_spread_40 : decode cX9_spread 40 = .ok (.iload_n 1, 1) := by decide +kernel
theorem dX9_spread_41 : decode cX9_spread 41 = .ok (.iload_n 3, 1) := by decide +kernel
theorem dX9_spread_42 : decode cX9_spread 42 = .ok (.iconst (-1), 1) := by decide +kernel
theorem dX9_spread_43 : decode cX9_spread 43 = .ok (.ixor, 1) := by decide +kernel
theorem dX9_spread_44 : decode cX9_spread 44 = .ok (.iand, 1) := by decide +kernel
theorem dX9_spread_45 : decode cX9_spread 45 = .ok (.iload 5, 2) := by decide +kernel
theorem dX9_spread_47 : decode cX9_spread 47 = .ok (.ior, 1) := by decide +kernel
theorem dX9_spread_48 : decode cX9_spread 48 = .ok (.iload_n 2, 1) := by decide +kernel
theorem dX9_spread_49 : decode cX9_spread 49 = .ok (.invokevirtual 121, 3) := by decide +kernel
theorem dX9_spread_52 : decode cX9_spread 52 = .ok (.iload 5, 2) := by decide +kernel
theorem dX9_spread_54 : decode cX9_spread 54 = .ok (.iload_n 3, 1) := by decide +kernel
theorem dX9_spread_55 : decode cX9_spread 55 = .ok (.isub, 1) := by decide +kernel
theorem dX9_spread_56 : decode cX9_spread 56 = .ok (.iload_n 3, 1) := by decide +kernel
theorem dX9_spread_57 : decode cX9_spread 57 = .ok (.iand, 1) := by decide +kernel
theorem dX9_spread_58 : decode cX9_spread 58 = .ok (.istore 5, 2) := by decide +kernel
theorem dX9_spread_60 : decode cX9_spread 60 = .ok (.iinc 6 1, 3) := by decide +kernel
theorem dX9_spread_63 : decode cX9_spread 63 = .ok (.goto (-31), 3) := by decide +kernel
theorem dX9_spread_66 : decode cX9_spread 66 = .ok (.return_, 1) := by decide +kernel
theorem dX9_startFrom_0 : decode cX9_startFrom 0 = .ok (.aload_n 0, 1) := by decide +kernel
theorem dX9_startFrom_1 : decode cX9_startFrom 1 = .ok (.getfield 25, 3) := by decide +kernel
theorem dX9_startFrom_4 : decode cX9_startFrom 4 = .ok (.aload_n 1, 1) := by decide +kernel
theorem dX9_startFrom_5 : decode cX9_startFrom 5 = .ok (.invokevirtual 63, 3) := by decide +kernel
theorem dX9_startFrom_8 : decode cX9_startFrom 8 = .ok (.aload_n 0, 1) := by decide +kernel
theorem dX9_startFrom_9 : decode cX9_startFrom 9 = .ok (.iload_n 2, 1) := by decide +kernel
theorem dX9_startFrom_10 : decode cX9_startFrom 10 = .ok (.putfield 57, 3) := by decide +kernel
theorem dX9_startFrom_13 : decode cX9_startFrom 13 = .ok (.aload_n 0, 1) := by decide +kernel
theorem dX9_startFrom_14 : decode cX9_startFrom 14 = .ok (.iload_n 3, 1) := by decide +kernel
theorem dX9_startFrom_15 : decode cX9_startFrom 15 = .ok (.putfield 60, 3) := by decide +kernel
theorem dX9_startFrom_18 : decode cX9_startFrom 18 = .ok (.aload_n 0, 1) := by decide +kernel
theorem dX9_startFrom_19 : decode cX9_startFrom 19 = .ok (.getfield 36, 3) := by decide +kernel
theorem dX9_startFrom_22 : decode cX9_startFrom 22 = .ok (.invokevirtual 67, 3) := by decide +kernel
theorem dX9_startFrom_25 : decode cX9_startFrom 25 = .ok (.ifCond .ne 13, 3) := by decide +kernel
theorem dX9_startFrom_28 : decode cX9_startFrom 28 = .ok (.aload_n 0, 1) := by decide +kernel
theorem dX9_startFrom_29 : decode cX9_startFrom 29 = .ok (.getfield 25, 3) := by decide +kernel
theorem dX9_startFrom_32 : decode cX9_startFrom 32 = .ok (.iload_n 2, 1) := by decide +kernel
theorem dX9_startFrom_33 : decode cX9_startFrom 33 = .ok (.iconst (-1), 1) := by decide +kernel
theorem dX9_startFrom_34 : decode cX9_startFrom 34 = .ok (.ixor, 1) := by decide +kernel
theorem dX9_startFrom_35 : decode cX9_startFrom 35 = .ok (.invokevirtual 73, 3) := by decide +kernel
theorem dX9_startFrom_38 : decode cX9_startFrom 38 = .ok (.return_, 1) := by decide +kernel
