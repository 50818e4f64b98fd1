theorem mw_10 : (Cond.selects RX5 yX5_addStep yX5_addStep) ∈ gx_G := gx_mem 10 (by decide +kernel) (by decide +kernel)
theorem mw_12 : (Cond.selects RX5 yX5_release yX5_release) ∈ gx_G := gx_mem 12 (by decide +kernel) (by decide +kernel)
theorem mw_37 : (Cond.selects RX11 yX11_findFits yX11_findFits) ∈ gx_G := gx_mem 37 (by decide +kernel) (by decide +kernel)
theorem mw_39 : (Cond.selects RX9 yX9_tally yX9_tally) ∈ gx_G := gx_mem 39 (by decide +kernel) (by decide +kernel)
theorem mw_202 : (Cond.fieldLink RX5 16 "DownTheGutter$Rule" "held" "[I") ∈ gx_G := gx_mem 202 (by decide +kernel) (by decide +kernel)
theorem mw_204 : (Cond.fieldLink RX5 60 "DownTheGutter$Rule" "holding" "I") ∈ gx_G := gx_mem 204 (by decide +kernel) (by decide +kernel)
theorem mw_205 : (Cond.fieldLink RX5 63 "DownTheGutter$Rule" "open" "I") ∈ gx_G := gx_mem 205 (by decide +kernel) (by decide +kernel)
theorem mw_206 : (Cond.fieldLink RX5 66 "DownTheGutter$Rule" "compared" "I") ∈ gx_G := gx_mem 206 (by decide +kernel) (by decide +kernel)
theorem mw_207 : (Cond.fieldLink RX5 69 "DownTheGutter$Rule" "digits" "I") ∈ gx_G := gx_mem 207 (by decide +kernel) (by decide +kernel)
theorem mw_208 : (Cond.fieldLink RX5 50 "DownTheGutter$Rule" "wantsThing" "Z") ∈ gx_G := gx_mem 208 (by decide +kernel) (by decide +kernel)
theorem mw_209 : (Cond.fieldLink RX5 23 "DownTheGutter$Rule" "asksPlank" "Z") ∈ gx_G := gx_mem 209 (by decide +kernel) (by decide +kernel)
theorem mw_212 : (Cond.fieldLink RX5 27 "DownTheGutter$Rule" "asksOthers" "Z") ∈ gx_G := gx_mem 212 (by decide +kernel) (by decide +kernel)
theorem mw_380 : (Cond.fieldLink RX9 115 "DownTheGutter$Current" "steps" "I") ∈ gx_G := gx_mem 380 (by decide +kernel) (by decide +kernel)
theorem mw_382 : (Cond.fieldLink RX11 334 "DownTheGutter$Current" "isEndless" "Z") ∈ gx_G := gx_mem 382 (by decide +kernel) (by decide +kernel)
theorem mw_384 : (Cond.fieldLink RX11 408 "DownTheGutter$Current" "rain" "I") ∈ gx_G := gx_mem 384 (by decide +kernel) (by decide +kernel)
theorem mw_386 : (Cond.fieldLink RX11 401 "DownTheGutter$Current" "rainFrom" "I") ∈ gx_G := gx_mem 386 (by decide +kernel) (by decide +kernel)
theorem mw_420 : (Cond.fieldLink RX9 19 "DownTheGutter$Trials" "tallies" "[I") ∈ gx_G := gx_mem 420 (by decide +kernel) (by decide +kernel)
theorem mw_424 : (Cond.fieldLink RX11 414 "DownTheGutter$Trials" "start" "LDownTheGutter$Scene;") ∈ gx_G := gx_mem 424 (by decide +kernel) (by decide +kernel)
theorem mw_711 : (Cond.methodLink RX5 84 yX5_addStep) ∈ gx_G := gx_mem 711 (by decide +kernel) (by decide +kernel)
theorem mw_713 : (Cond.instanceMethod yX5_addStep) ∈ gx_G := gx_mem 713 (by decide +kernel) (by decide +kernel)
theorem mw_714 : (Cond.code yX5_addStep cX5_addStep 2 none) ∈ gx_G := gx_mem 714 (by decide +kernel) (by decide +kernel)
theorem mw_719 : (Cond.methodLink RX5 72 yX5_release) ∈ gx_G := gx_mem 719 (by decide +kernel) (by decide +kernel)
theorem mw_721 : (Cond.instanceMethod yX5_release) ∈ gx_G := gx_mem 721 (by decide +kernel) (by decide +kernel)
theorem mw_722 : (Cond.code yX5_release cX5_release 4 none) ∈ gx_G := gx_mem 722 (by decide +kernel) (by decide +kernel)
theorem mw_723 : (Cond.methodLink RX5 103 yX5_rankOf) ∈ gx_G := gx_mem 723 (by decide +kernel) (by decide +kernel)
theorem mw_724 : (Cond.static yX5_rankOf) ∈ gx_G := gx_mem 724 (by decide +kernel) (by decide +kernel)
theorem mw_725 : (Cond.code yX5_rankOf cX5_rankOf 1 (some .int)) ∈ gx_G := gx_mem 725 (by decide +kernel) (by decide +kernel)
theorem mw_805 : (Cond.methodLink RX11 231 yX11_isWait) ∈ gx_G := gx_mem 805 (by decide +kernel) (by decide +kernel)
theorem mw_806 : (Cond.static yX11_isWait) ∈ gx_G := gx_mem 806 (by decide +kernel) (by decide +kernel)
theorem mw_807 : (Cond.code yX11_isWait cX11_isWait 1 (some .boolean)) ∈ gx_G := gx_mem 807 (by decide +kernel) (by decide +kernel)
theorem mw_1020 : (Cond.methodLink RX11 290 yX11_isAhead) ∈ gx_G := gx_mem 1020 (by decide +kernel) (by decide +kernel)
theorem mw_1021 : (Cond.static yX11_isAhead) ∈ gx_G := gx_mem 1021 (by decide +kernel) (by decide +kernel)
theorem mw_1022 : (Cond.code yX11_isAhead cX11_isAhead 1 (some .boolean)) ∈ gx_G := gx_mem 1022 (by decide +kernel) (by decide +kernel)
theorem mw_1023 : (Cond.methodLink RX11 293 yX9_goOn) ∈ gx_G := gx_mem 1023 (by decide +kernel) (by decide +kernel)
theorem mw_1024 : (Cond.instanceMethod yX9_goOn) ∈ gx_G := gx_mem 1024 (by decide +kernel) (by decide +kernel)
theorem mw_1025 : (Cond.selects RX9 yX9_goOn yX9_goOn) ∈ gx_G := gx_mem 1025 (by decide +kernel) (by decide +kernel)
theorem mw_1026 : (Cond.code yX9_goOn cX9_goOn 4 none) ∈ gx_G := gx_mem 1026 (by decide +kernel) (by decide +kernel)
theorem mw_1039 : (Cond.methodLink RX11 300 yX4_tell__) ∈ gx_G := gx_mem 1039 (by decide +kernel) (by decide +kernel)
theorem mw_1040 : (Cond.instanceMethod yX4_tell__) ∈ gx_G := gx_mem 1040 (by decide +kernel) (by decide +kernel)
theorem mw_1041 : (Cond.selects RX4 yX4_tell__ yX4_tell__) ∈ gx_G := gx_mem 1041 (by decide +kernel) (by decide +kernel)
theorem mw_1042 : (Cond.code yX4_tell__ cX4_tell__ 7 none) ∈ gx_G := gx_mem 1042 (by decide +kernel) (by decide +kernel)
theorem mw_1066 : (Cond.methodLink RX11 310 yX11_lowest) ∈ gx_G := gx_mem 1066 (by decide +kernel) (by decide +kernel)
theorem mw_1067 : (Cond.static yX11_lowest) ∈ gx_G := gx_mem 1067 (by decide +kernel) (by decide +kernel)
theorem mw_1068 : (Cond.code yX11_lowest cX11_lowest 2 (some .int)) ∈ gx_G := gx_mem 1068 (by decide +kernel) (by decide +kernel)
theorem mw_1128 : (Cond.methodLink RX11 331 yX9_begin) ∈ gx_G := gx_mem 1128 (by decide +kernel) (by decide +kernel)
theorem mw_1129 : (Cond.methodLink RX11 338 yX9_circle) ∈ gx_G := gx_mem 1129 (by decide +kernel) (by decide +kernel)
theorem mw_1130 : (Cond.instanceMethod yX9_circle) ∈ gx_G := gx_mem 1130 (by decide +kernel) (by decide +kernel)
theorem mw_1131 : (Cond.selects RX9 yX9_circle yX9_circle) ∈ gx_G := gx_mem 1131 (by decide +kernel) (by decide +kernel)
theorem mw_1132 : (Cond.code yX9_circle cX9_circle 4 (some .int)) ∈ gx_G := gx_mem 1132 (by decide +kernel) (by decide +kernel)
theorem mw_1133 : (Cond.constantLong RX11 341 (-1)) ∈ gx_G := gx_mem 1133 (by decide +kernel) (by decide +kernel)
theorem mw_1138 : (Cond.methodLink RX11 343 yX9_startFrom) ∈ gx_G := gx_mem 1138 (by decide +kernel) (by decide +kernel)
theorem mw_1139 : (Cond.instanceMethod yX9_startFrom) ∈ gx_G := gx_mem 1139 (by decide +kernel) (by decide +kernel)
theorem mw_1140 : (Cond.selects RX9 yX9_startFrom yX9_startFrom) ∈ gx_G := gx_mem 1140 (by decide +kernel) (by decide +kernel)
theorem mw_1141 : (Cond.code yX9_startFrom cX9_startFrom 4 none) ∈ gx_G := gx_mem 1141 (by decide +kernel) (by decide +kernel)
theorem mw_1142 : (Cond.methodLink RX9 67 yX1_seesOthers) ∈ gx_G := gx_mem 1142 (by decide +kernel) (by decide +kernel)
theorem mw_1143 : (Cond.instanceMethod yX1_seesOthers) ∈ gx_G := gx_mem 1143 (by decide +kernel) (by decide +kernel)
theorem mw_1144 : (Cond.selects RX1 yX1_seesOthers yX1_seesOthers) ∈ gx_G := gx_mem 1144 (by decide +kernel) (by decide +kernel)
theorem mw_1145 : (Cond.code yX1_seesOthers cX1_seesOthers 1 (some .boolean)) ∈ gx_G := gx_mem 1145 (by decide +kernel) (by decide +kernel)
theorem mw_1146 : (Cond.methodLink RX9 73 yX6_holdBack) ∈ gx_G := gx_mem 1146 (by decide +kernel) (by decide +kernel)
theorem mw_1147 : (Cond.instanceMethod yX6_holdBack) ∈ gx_G := gx_mem 1147 (by decide +kernel) (by decide +kernel)
theorem mw_1148 : (Cond.selects RX6 yX6_holdBack yX6_holdBack) ∈ gx_G := gx_mem 1148 (by decide +kernel) (by decide +kernel)
theorem mw_1149 : (Cond.code yX6_holdBack cX6_holdBack 3 none) ∈ gx_G := gx_mem 1149 (by decide +kernel) (by decide +kernel)
theorem mw_1150 : (Cond.constant RX6 61 (2147483647)) ∈ gx_G := gx_mem 1150 (by decide +kernel) (by decide +kernel)
theorem mw_1213 : (Cond.methodLink RX11 372 yX11_findFits) ∈ gx_G := gx_mem 1213 (by decide +kernel) (by decide +kernel)
theorem mw_1215 : (Cond.instanceMethod yX11_findFits) ∈ gx_G := gx_mem 1215 (by decide +kernel) (by decide +kernel)
theorem mw_1216 : (Cond.code yX11_findFits cX11_findFits 5 none) ∈ gx_G := gx_mem 1216 (by decide +kernel) (by decide +kernel)
theorem mw_1253 : (Cond.methodLink RX11 381 yX9_mostLeft) ∈ gx_G := gx_mem 1253 (by decide +kernel) (by decide +kernel)
theorem mw_1254 : (Cond.instanceMethod yX9_mostLeft) ∈ gx_G := gx_mem 1254 (by decide +kernel) (by decide +kernel)
theorem mw_1255 : (Cond.selects RX9 yX9_mostLeft yX9_mostLeft) ∈ gx_G := gx_mem 1255 (by decide +kernel) (by decide +kernel)
theorem mw_1256 : (Cond.code yX9_mostLeft cX9_mostLeft 4 (some .int)) ∈ gx_G := gx_mem 1256 (by decide +kernel) (by decide +kernel)
theorem mw_1257 : (Cond.methodLink RX9 146 yX9_forgetSets) ∈ gx_G := gx_mem 1257 (by decide +kernel) (by decide +kernel)
theorem mw_1258 : (Cond.methodLink RX9 149 yX9_fits) ∈ gx_G := gx_mem 1258 (by decide +kernel) (by decide +kernel)
theorem mw_1259 : (Cond.methodLink RX9 152 yX9_outcome) ∈ gx_G := gx_mem 1259 (by decide +kernel) (by decide +kernel)
theorem mw_1261 : (Cond.methodLink RX9 158 yX9_tally) ∈ gx_G := gx_mem 1261 (by decide +kernel) (by decide +kernel)
theorem mw_1263 : (Cond.instanceMethod yX9_tally) ∈ gx_G := gx_mem 1263 (by decide +kernel) (by decide +kernel)
theorem mw_1264 : (Cond.code yX9_tally cX9_tally 3 (some .int)) ∈ gx_G := gx_mem 1264 (by decide +kernel) (by decide +kernel)
theorem mw_1269 : (Cond.methodLink RX11 404 yX11_weightOf) ∈ gx_G := gx_mem 1269 (by decide +kernel) (by decide +kernel)
theorem mw_1270 : (Cond.static yX11_weightOf) ∈ gx_G := gx_mem 1270 (by decide +kernel) (by decide +kernel)
theorem mw_1271 : (Cond.code yX11_weightOf cX11_weightOf 5 (some .int)) ∈ gx_G := gx_mem 1271 (by decide +kernel) (by decide +kernel)
theorem mw_1272 : (Cond.methodLink RX11 411 yX11_commonDivisor) ∈ gx_G := gx_mem 1272 (by decide +kernel) (by decide +kernel)
theorem mw_1273 : (Cond.static yX11_commonDivisor) ∈ gx_G := gx_mem 1273 (by decide +kernel) (by decide +kernel)
theorem mw_1274 : (Cond.code yX11_commonDivisor cX11_commonDivisor 6 (some .int)) ∈ gx_G := gx_mem 1274 (by decide +kernel) (by decide +kernel)
theorem mw_1283 : (Cond.methodLink RX11 417 yX6_setStart) ∈ gx_G := gx_mem 1283 (by decide +kernel) (by decide +kernel)
theorem mw_1284 : (Cond.instanceMethod yX6_setStart) ∈ gx_G := gx_mem 1284 (by decide +kernel) (by decide +kernel)
theorem mw_1285 : (Cond.selects RX6 yX6_setStart yX6_setStart) ∈ gx_G := gx_mem 1285 (by decide +kernel) (by decide +kernel)
theorem mw_1286 : (Cond.code yX6_setStart cX6_setStart 3 none) ∈ gx_G := gx_mem 1286 (by decide +kernel) (by decide +kernel)
theorem cw_X11_290 : gx_Ws RX11 290 yX11_isAhead cX11_isAhead 1 (some .boolean) 1 := ⟨⟨mw_1020, mw_1021, mw_89, mw_1022⟩, by decide +kernel⟩
theorem cw_X11_293 : gx_Wv RX11 293 yX9_goOn cX9_goOn 4 none 2 := ⟨⟨mw_1023, mw_1024, mw_1025, mw_100, mw_1026⟩, by decide +kernel⟩
theorem cw_X11_310 : gx_Ws RX11 310 yX11_lowest cX11_lowest 2 (some .int) 1 := ⟨⟨mw_1066, mw_1067, mw_89, mw_1068⟩, by decide +kernel⟩
theorem cw_X11_300 : gx_Wv RX11 300 yX4_tell__ cX4_tell__ 7 none 3 := ⟨⟨mw_1039, mw_1040, mw_1041, mw_98, mw_1042⟩, by decide +kernel⟩
theorem cw_X11_372 : gx_Wv RX11 372 yX11_findFits cX11_findFits 5 none 0 := ⟨⟨mw_1213, mw_1215, mw_37, mw_89, mw_1216⟩, by decide +kernel⟩
theorem cw_X9_149 : gx_Wv RX9 149 yX9_fits cX9_fits 2 (some .boolean) 1 := ⟨⟨mw_1258, mw_1242, mw_1243, mw_100, mw_1244⟩, by decide +kernel⟩
theorem cw_X9_152 : gx_Wv RX9 152 yX9_outcome cX9_outcome 2 (some .int) 1 := ⟨⟨mw_1259, mw_1168, mw_1169, mw_100, mw_1170⟩, by decide +kernel⟩
theorem cw_X9_155 : gx_Wsn RX9 155 yX11_kitchenOf RX11 cX11_kitchenOf 1 (some .int) 1 := ⟨⟨by decide +kernel, mw_1246, mw_89, mw_1247⟩, by decide +kernel⟩
theorem cw_X9_158 : gx_Wv RX9 158 yX9_tally cX9_tally 3 (some .int) 1 := ⟨⟨mw_1261, mw_1263, mw_39, mw_100, mw_1264⟩, by decide +kernel⟩
theorem cw_X9_146 : gx_Wv RX9 146 yX9_forgetSets cX9_forgetSets 3 none 0 := ⟨⟨mw_1257, mw_1156, mw_1157, mw_100, mw_1158⟩, by decide +kernel⟩
theorem cw_X11_381 : gx_Wv RX11 381 yX9_mostLeft cX9_mostLeft 4 (some .int) 0 := ⟨⟨mw_1253, mw_1254, mw_1255, mw_100, mw_1256⟩, by decide +kernel⟩
theorem cw_X11_411 : gx_Ws RX11 411 yX11_commonDivisor cX11_commonDivisor 6 (some .int) 2 := ⟨⟨mw_1272, mw_1273, mw_89, mw_1274⟩, by decide +kernel⟩
theorem cw_X11_404 : gx_Ws RX11 404 yX11_weightOf cX11_weightOf 5 (some .int) 3 := ⟨⟨mw_1269, mw_1270, mw_89, mw_1271⟩, by decide +kernel⟩
theorem cw_X9_67 : gx_Wv RX9 67 yX1_seesOthers cX1_seesOthers 1 (some .boolean) 0 := ⟨⟨mw_1142, mw_1143, mw_1144, mw_99, mw_1145⟩, by decide +kernel⟩
theorem cw_X9_73 : gx_Wv RX9 73 yX6_holdBack cX6_holdBack 3 none 1 := ⟨⟨mw_1146, mw_1147, mw_1148, mw_95, mw_1149⟩, by decide +kernel⟩
theorem cw_X11_417 : gx_Wv RX11 417 yX6_setStart cX6_setStart 3 none 2 := ⟨⟨mw_1283, mw_1284, mw_1285, mw_95, mw_1286⟩, by decide +kernel⟩
theorem cw_X11_343 : gx_Wv RX11 343 yX9_startFrom cX9_startFrom 4 none 3 := ⟨⟨mw_1138, mw_1139, mw_1140, mw_100, mw_1141⟩, by decide +kernel⟩
theorem cw_X11_231 : gx_Ws RX11 231 yX11_isWait cX11_isWait 1 (some .boolean) 1 := ⟨⟨mw_805, mw_806, mw_89, mw_807⟩, by decide +kernel⟩
theorem cw_X11_331 : gx_Wv RX11 331 yX9_begin cX9_begin 2 none 1 := ⟨⟨mw_1128, mw_1093, mw_1094, mw_100, mw_1095⟩, by decide +kernel⟩
theorem cw_X11_338 : gx_Wv RX11 338 yX9_circle cX9_circle 4 (some .int) 2 := ⟨⟨mw_1129, mw_1130, mw_1131, mw_100, mw_1132⟩, by decide +kernel⟩
theorem cw_X5_84 : gx_Wv RX5 84 yX5_addStep cX5_addStep 2 none 1 := ⟨⟨mw_711, mw_713, mw_10, mw_93, mw_714⟩, by decide +kernel⟩
theorem cw_X5_103 : gx_Ws RX5 103 yX5_rankOf cX5_rankOf 1 (some .int) 1 := ⟨⟨mw_723, mw_724, mw_93, mw_725⟩, by decide +kernel⟩
theorem cw_X5_72 : gx_Wv RX5 72 yX5_release cX5_release 4 none 1 := ⟨⟨mw_719, mw_721, mw_12, mw_93, mw_722⟩, by decide +kernel⟩
theorem t_21 : gx_tb[21]? = some (.inl (6, [some (some 22), some (some 23), some (some 24), none, none, none, none, none, none, none, none])) := rfl
theorem t_22 : gx_tb[22]? = some (.inr (0, 40, [])) := rfl
theorem t_24 : gx_tb[24]? = some (.inr (0, 40, [])) := rfl
theorem t_163 : gx_tb[163]? = some (.inr (0, 13, [])) := rfl
theorem dX11_homes_0 : decode cX11_homes 0 = .ok (.iload_n 1, 1) := by decide +kernel
theorem dX11_homes_1 : decode cX11_homes 1 = .ok (.invokestatic 290, 3) := by decide +kernel
theorem dX11_homes_4 : decode cX11_homes 4 = .ok (.ifCond .ne 5, 3) := by decide +kernel
theorem dX11_homes_7 : decode cX11_homes 7 = .ok (.iconst (-1), 1) := by decide +kernel
theorem dX11_homes_8 : decode cX11_homes 8 = .ok (.ireturn, 1) := by decide +kernel
theorem dX11_homes_9 : decode cX11_homes 9 = .ok (.aload_n 0, 1) := by decide +kernel
theorem dX11_homes_10 : decode cX11_homes 10 = .ok (.getfield 99, 3) := by decide +kernel
theorem dX11_homes_13 : decode cX11_homes 13 = .ok (.aload_n 0, 1) := by decide +kernel
theorem dX11_homes_14 : decode cX11_homes 14 = .ok (.getfield 53, 3) := by decide +kernel
theorem dX11_homes_17 : decode cX11_homes 17 = .ok (.iload_n 1, 1) := by decide +kernel
theorem dX11_homes_18 : decode cX11_homes 18 = .ok (.invokevirtual 293, 3) := by decide +kernel
theorem dX11_homes_21 : decode cX11_homes 21 = .ok (.aload_n 0, 1) := by decide +kernel
theorem dX11_homes_22 : decode cX11_homes 22 = .ok (.getfield 81, 3) := by decide +kernel
theorem dX11_homes_25 : decode cX11_homes 25 = .ok (.aload_n 0, 1) := by decide +kernel
theorem dX11_homes_26 : decode cX11_homes 26 = .ok (.getfield 99, 3) := by decide +kernel
theorem dX11_homes_29 : decode cX11_homes 29 = .ok (.getfield 297, 3) := by decide +kernel
theorem dX11_homes_32 : decode cX11_homes 32 = .ok (.getfield 250, 3) := by decide +kernel
theorem dX11_homes_35 : decode cX11_homes 35 = .ok (.i2l, 1) := by decide +kernel
theorem dX11_homes_36 : decode cX11_homes 36 = .ok (.aload_n 0, 1) := by decide +kernel
theorem dX11_homes_37 : decode cX11_homes 37 = .ok (.getfield 99, 3) := by decide +kernel
theorem dX11_homes_40 : decode cX11_homes 40 = .ok (.getfield 297, 3) := by decide +kernel
theorem dX11_homes_43 : decode cX11_homes 43 = .ok (.invokevirtual 166, 3) := by decide +kernel
theorem dX11_homes_46 : decode cX11_homes 46 = .ok (.i2l, 1) := by decide +kernel
theorem dX11_homes_47 : decode cX11_homes 47 = .ok (.invokevirtual 257, 3) := by decide +kernel
theorem dX11_homes_50 : decode cX11_homes 50 = .ok (.aload_n 0, 1) := by decide +kernel
theorem dX11_homes_51 : decode cX11_homes 51 = .ok (.getfield 99, 3) := by decide +kernel
theorem dX11_homes_54 : decode cX11_homes 54 = .ok (.getfield 297, 3) := by decide +kernel
theorem dX11_homes_57 : decode cX11_homes 57 = .ok (.getfield 247, 3) := by decide +kernel
theorem dX11_homes_60 : decode cX11_homes 60 = .ok (.ireturn, 1) := by decide +kernel
theorem dX11_isWait_0 : decode cX11_isWait 0 = .ok (.iload_n 0, 1) := by decide +kernel
theorem dX11_isWait_1 : decode cX11_isWait 1 = .ok (.ifCond .lt 13, 3) := by decide +kernel
theorem dX11_isWait_4 : decode cX11_isWait 4 = .ok (.iload_n 0, 1) := by decide +kernel
theorem dX11_isWait_5 : decode cX11_isWait 5 = .ok (.bipush 99, 2) := by decide +kernel
theorem dX11_isWait_7 : decode cX11_isWait 7 = .ok (.if_icmp .gt 7, 3) := by decide +kernel
theorem dX11_isWait_10 : decode cX11_isWait 10 = .ok (.iconst 1, 1) := by decide +kernel
theorem dX11_isWait_11 : decode cX11_isWait 11 = .ok (.goto 4, 3) := by decide +kernel
theorem dX11_isWait_14 : decode cX11_isWait 14 = .ok (.iconst 0, 1) := by decide +kernel
theorem dX11_isWait_15 : decode cX11_isWait 15 = .ok (.ireturn, 1) := by decide +kernel
theorem dX11_keep_0 : decode cX11_keep 0 = .ok (.iload_n 1, 1) := by decide +kernel
theorem dX11_keep_1 : decode cX11_keep 1 = .ok (.ifCond .lt 8, 3) := by decide +kernel
theorem dX11_keep_4 : decode cX11_keep 4 = .ok (.iload_n 1, 1) := by decide +kernel
theorem dX11_keep_5 : decode cX11_keep 5 = .ok (.iconst 3, 1) := by decide +kernel
theorem dX11_keep_6 : decode cX11_keep 6 = .ok (.if_icmp .lt 5, 3) := by decide +kernel
theorem dX11_keep_9 : decode cX11_keep 9 = .ok (.iconst 0, 1) := by decide +kernel
theorem dX11_keep_10 : decode cX11_keep 10 = .ok (.ireturn, 1) := by decide +kernel
theorem dX11_keep_11 : decode cX11_keep 11 = .ok (.aload_n 0, 1) := by decide +kernel
theorem dX11_keep_12 : decode cX11_keep 12 = .ok (.getfield 67, 3) := by decide +kernel
theorem dX11_keep_15 : decode cX11_keep 15 = .ok (.iload_n 1, 1) := by decide +kernel
theorem dX11_keep_16 : decode cX11_keep 16 = .ok (.aaload, 1) := by decide +kernel
theorem dX11_keep_17 : decode cX11_keep 17 = .ok (.aload_n 0, 1) := by decide +kernel
theorem dX11_keep_18 : decode cX11_keep 18 = .ok (.getfield 53, 3) := by decide +kernel
theorem dX11_keep_21 : decode cX11_keep 21 = .ok (.invokevirtual 270, 3) := by decide +kernel
theorem dX11_keep_24 : decode cX11_keep 24 = .ok (.aload_n 0, 1) := by decide +kernel
theorem dX11_keep_25 : decode cX11_keep 25 = .ok (.dup, 1) := by decide +kernel
theorem dX11_keep_26 : decode cX11_keep 26 = .ok (.getfield 129, 3) := by decide +kernel
theorem dX11_keep_29 : decode cX11_keep 29 = .ok (.iconst 1, 1) := by decide +kernel
theorem dX11_keep_30 : decode cX11_keep 30 = .ok (.iload_n 1, 1) := by decide +kernel
theorem dX11_keep_31 : decode cX11_keep 31 = .ok (.ishl, 1) := by decide +kernel
theorem dX11_keep_32 : decode cX11_keep 32 = .ok (.ior, 1) := by decide +kernel
theorem dX11_keep_33 : decode cX11_keep 33 = .ok (.putfield 129, 3) := by decide +kernel
theorem dX11_keep_36 : decode cX11_keep 36 = .ok (.iconst 1, 1) := by decide +kernel
theorem dX11_keep_37 : decode cX11_keep 37 = .ok (.ireturn, 1) := by decide +kernel
theorem dX11_lost_0 : decode cX11_lost 0 = .ok (.iload_n 1, 1) := by decide +kernel
theorem dX11_lost_1 : decode cX11_lost 1 = .ok (.invokestatic 290, 3) := by decide +kernel
theorem dX11_lost_4 : decode cX11_lost 4 = .ok (.ifCond .ne 5, 3) := by decide +kernel
theorem dX11_lost_7 : decode cX11_lost 7 = .ok (.iconst (-1), 1) := by decide +kernel
theorem dX11_lost_8 : decode cX11_lost 8 = .ok (.ireturn, 1) := by decide +kernel
theorem dX11_lost_9 : decode cX11_lost 9 = .ok (.aload_n 0, 1) := by decide +kernel
theorem dX11_lost_10 : decode cX11_lost 10 = .ok (.getfield 99, 3) := by decide +kernel
theorem dX11_lost_13 : decode cX11_lost 13 = .ok (.getfield 297, 3) := by decide +kernel
theorem dX11_lost_16 : decode cX11_lost 16 = .ok (.astore_n 2, 1) := by decide +kernel
theorem dX11_lost_17 : decode cX11_lost 17 = .ok (.aload_n 2, 1) := by decide +kernel
theorem dX11_lost_18 : decode cX11_lost 18 = .ok (.aload_n 0, 1) := by decide +kernel
theorem dX11_lost_19 : decode cX11_lost 19 = .ok (.getfield 53, 3) := by decide +kernel
theorem dX11_lost_22 : decode cX11_lost 22 = .ok (.invokevirtual 270, 3) := by decide +kernel
theorem dX11_lost_25 : decode cX11_lost 25 = .ok (.iconst 1, 1) := by decide +kernel
theorem dX11_lost_26 : decode cX11_lost 26 = .ok (.istore_n 3, 1) := by decide +kernel
theorem dX11_lost_27 : decode cX11_lost 27 = .ok (.iload_n 3, 1) := by decide +kernel
theorem dX11_lost_28 : decode cX11_lost 28 = .ok (.iload_n 1, 1) := by decide +kernel
theorem dX11_lost_29 : decode cX11_lost 29 = .ok (.if_icmp .gt 71, 3) := by decide +kernel
theorem dX11_lost_32 : decode cX11_lost 32 = .ok (.aload_n 2, 1) := by decide +kernel
theorem dX11_lost_33 : decode cX11_lost 33 = .ok (.invokevirtual 166, 3) := by decide +kernel
theorem dX11_lost_36 : decode cX11_lost 36 = .ok (.ifCond .eq 64, 3) := by decide +kernel
theorem dX11_lost_39 : decode cX11_lost 39 = .ok (.aload_n 0, 1) := by decide +kernel
theorem dX11_lost_40 : decode cX11_lost 40 = .ok (.getfield 90, 3) := by decide +kernel
theorem dX11_lost_43 : decode cX11_lost 43 = .ok (.aload_n 2, 1) := by decide +kernel
theorem dX11_lost_44 : decode cX11_lost 44 = .ok (.invokevirtual 266, 3) := by decide +kernel
theorem dX11_lost_47 : decode cX11_lost 47 = .ok (.aload_n 2, 1) := by decide +kernel
theorem dX11_lost_48 : decode cX11_lost 48 = .ok (.getfield 250, 3) := by decide +kernel
theorem dX11_lost_51 : decode cX11_lost 51 = .ok (.aload_n 0, 1) := by decide +kernel
theorem dX11_lost_52 : decode cX11_lost 52 = .ok (.getfield 53, 3) := by decide +kernel
theorem dX11_lost_55 : decode cX11_lost 55 = .ok (.getfield 250, 3) := by decide +kernel
theorem dX11_lost_58 : decode cX11_lost 58 = .ok (.iconst (-1), 1) := by decide +kernel
theorem dX11_lost_59 : decode cX11_lost 59 = .ok (.ixor, 1) := by decide +kernel
theorem dX11_lost_60 : decode cX11_lost 60 = .ok (.iand, 1) := by decide +kernel
theorem dX11_lost_61 : decode cX11_lost 61 = .ok (.istore 4, 2) := by decide +kernel
theorem dX11_lost_63 : decode cX11_lost 63 = .ok (.iload 4, 2) := by decide +kernel
theorem dX11_lost_65 : decode cX11_lost 65 = .ok (.ifCond .eq 29, 3) := by decide +kernel
theorem dX11_lost_68 : decode cX11_lost 68 = .ok (.iload 4, 2) := by decide +kernel
theorem dX11_lost_70 : decode cX11_lost 70 = .ok (.invokestatic 310, 3) := by decide +kernel
theorem dX11_lost_73 : decode cX11_lost 73 = .ok (.istore 5, 2) := by decide +kernel
theorem dX11_lost_75 : decode cX11_lost 75 = .ok (.aload_n 0, 1) := by decide +kernel
theorem dX11_lost_76 : decode cX11_lost 76 = .ok (.getfield 81, 3) := by decide +kernel
theorem dX11_lost_79 : decode cX11_lost 79 = .ok (.iload_n 3, 1) := by decide +kernel
theorem dX11_lost_80 : decode cX11_lost 80 = .ok (.i2l, 1) := by decide +kernel
theorem dX11_lost_81 : decode cX11_lost 81 = .ok (.aload_n 2, 1) := by decide +kernel
theorem dX11_lost_82 : decode cX11_lost 82 = .ok (.iload 5, 2) := by decide +kernel
theorem dX11_lost_84 : decode cX11_lost 84 = .ok (.invokevirtual 175, 3) := by decide +kernel
theorem dX11_lost_87 : decode cX11_lost 87 = .ok (.i2l, 1) := by decide +kernel
theorem dX11_lost_88 : decode cX11_lost 88 = .ok (.invokevirtual 257, 3) := by decide +kernel
theorem dX11_lost_91 : decode cX11_lost 91 = .ok (.iload 5, 2) := by decide +kernel
theorem dX11_lost_93 : decode cX11_lost 93 = .ok (.ireturn, 1) := by decide +kernel
theorem dX11_lost_94 : decode cX11_lost 94 = .ok (.iinc 3 1, 3) := by decide +kernel
theorem dX11_lost_97 : decode cX11_lost 97 = .ok (.goto (-70), 3) := by decide +kernel
theorem dX11_lost_100 : decode cX11_lost 100 = .ok (.bipush (-2), 2) := by decide +kernel
theorem dX11_lost_102 : decode cX11_lost 102 = .ok (.ireturn, 1) := by decide +kernel
theorem dX11_lowest_0 : decode cX11_lowest 0 = .ok (.iconst 0, 1) := by decide +kernel
theorem dX11_lowest_1 : decode cX11_lowest 1 = .ok (.istore_n 1, 1) := by decide +kernel
theorem dX11_lowest_2 : decode cX11_lowest 2 = .ok (.iload_n 1, 1) := by decide +kernel
theorem dX11_lowest_3 : decode cX11_lowest 3 = .ok (.bipush 32, 2) := by decide +kernel
theorem dX11_lowest_5 : decode cX11_lowest 5 = .ok (.if_icmp .ge 19, 3) := by decide +kernel
theorem dX11_lowest_8 : decode cX11_lowest 8 = .ok (.iload_n 0, 1) := by decide +kernel
theorem dX11_lowest_9 : decode cX11_lowest 9 = .ok (.iload_n 1, 1) := by decide +kernel
theorem dX11_lowest_10 : decode cX11_lowest 10 = .ok (.ishr, 1) := by decide +kernel
theorem dX11_lowest_11 : decode cX11_lowest 11 = .ok (.iconst 1, 1) := by decide +kernel
theorem dX11_lowest_12 : decode cX11_lowest 12 = .ok (.iand, 1) := by decide +kernel
theorem dX11_lowest_13 : decode cX11_lowest 13 = .ok (.ifCond .eq 5, 3) := by decide +kernel
theorem dX11_lowest_16 : decode cX11_lowest 16 = .ok (.iload_n 1, 1) := by decide +kernel
theorem dX11_lowest_17 : decode cX11_lowest 17 = .ok (.ireturn, 1) := by decide +kernel
theorem dX11_lowest_18 : decode cX11_lowest 18 = .ok (.iinc 1 1, 3) := by decide +kernel
theorem dX11_lowest_21 : decode cX11_lowest 21 = .ok (.goto (-19), 3) := by decide +kernel
theorem dX11_lowest_24 : decode cX11_lowest 24 = .ok (.iconst (-1), 1) := by decide +kernel
theorem dX11_lowest_25 : decode cX11_lowest 25 = .ok (.ireturn, 1) := by decide +kernel
theorem dX11_maps_0 : decode cX11_maps 0 = .ok (.aload_n 0, 1) := by decide +kernel
theorem dX11_maps_1 : decode cX11_maps 1 = .ok (.invokevirtual 372, 3) := by decide +kernel
theorem dX11_maps_4 : decode cX11_maps 4 = .ok (.iconst 0, 1) := by decide +kernel
theorem dX11_maps_5 : decode cX11_maps 5 = .ok (.istore_n 1, 1) := by decide +kernel
theorem dX11_maps_6 : decode cX11_maps 6 = .ok (.iconst (-1), 1) := by decide +kernel
theorem dX11_maps_7 : decode cX11_maps 7 = .ok (.istore_n 2, 1) := by decide +kernel
theorem dX11_maps_8 : decode cX11_maps 8 = .ok (.aload_n 0, 1) := by decide +kernel
theorem dX11_maps_9 : decode cX11_maps 9 = .ok (.getfield 19, 3) := by decide +kernel
theorem dX11_maps_12 : decode cX11_maps 12 = .ok (.getfield 375, 3) := by decide +kernel
theorem dX11_maps_15 : decode cX11_maps 15 = .ok (.istore_n 3, 1) := by decide +kernel
theorem dX11_maps_16 : decode cX11_maps 16 = .ok (.aload_n 0, 1) := by decide +kernel
theorem dX11_maps_17 : decode cX11_maps 17 = .ok (.getfield 19, 3) := by decide +kernel
theorem dX11_maps_20 : decode cX11_maps 20 = .ok (.getfield 375, 3) := by decide +kernel
theorem dX11_maps_23 : decode cX11_maps 23 = .ok (.istore 4, 2) := by decide +kernel
theorem dX11_maps_25 : decode cX11_maps 25 = .ok (.iconst 0, 1) := by decide +kernel
theorem dX11_maps_26 : decode cX11_maps 26 = .ok (.istore 5, 2) := by decide +kernel
theorem dX11_maps_28 : decode cX11_maps 28 = .ok (.iconst 0, 1) := by decide +kernel
theorem dX11_maps_29 : decode cX11_maps 29 = .ok (.istore 6, 2) := by decide +kernel
theorem dX11_maps_31 : decode cX11_maps 31 = .ok (.iload 6, 2) := by decide +kernel
theorem dX11_maps_33 : decode cX11_maps 33 = .ok (.aload_n 0, 1) := by decide +kernel
theorem dX11_maps_34 : decode cX11_maps 34 = .ok (.getfield 19, 3) := by decide +kernel
theorem dX11_maps_37 : decode cX11_maps 37 = .ok (.getfield 353, 3) := by decide +kernel
theorem dX11_maps_40 : decode cX11_maps 40 = .ok (.if_icmp .ge 61, 3) := by decide +kernel
theorem dX11_maps_43 : decode cX11_maps 43 = .ok (.aload_n 0, 1) := by decide +kernel
theorem dX11_maps_44 : decode cX11_maps 44 = .ok (.getfield 99, 3) := by decide +kernel
theorem dX11_maps_47 : decode cX11_maps 47 = .ok (.iload 5, 2) := by decide +kernel
theorem dX11_maps_49 : decode cX11_maps 49 = .ok (.invokevirtual 378, 3) := by decide +kernel
theorem dX11_maps_52 : decode cX11_maps 52 = .ok (.ifCond .eq 32, 3) := by decide +kernel
theorem dX11_maps_55 : decode cX11_maps 55 = .ok (.iinc 1 1, 3) := by decide +kernel
theorem dX11_maps_58 : decode cX11_maps 58 = .ok (.iload_n 2, 1) := by decide +kernel
theorem dX11_maps_59 : decode cX11_maps 59 = .ok (.iconst (-1), 1) := by decide +kernel
theorem dX11_maps_60 : decode cX11_maps 60 = .ok (.if_icmp .ne 8, 3) := by decide +kernel
theorem dX11_maps_63 : decode cX11_maps 63 = .ok (.iload 5, 2) := by decide +kernel
theorem dX11_maps_65 : decode cX11_maps 65 = .ok (.goto 4, 3) := by decide +kernel
theorem dX11_maps_68 : decode cX11_maps 68 = .ok (.iload_n 2, 1) := by decide +kernel
theorem dX11_maps_69 : decode cX11_maps 69 = .ok (.istore_n 2, 1) := by decide +kernel
theorem dX11_maps_70 : decode cX11_maps 70 = .ok (.iload_n 3, 1) := by decide +kernel
theorem dX11_maps_71 : decode cX11_maps 71 = .ok (.iload 5, 2) := by decide +kernel
theorem dX11_maps_73 : decode cX11_maps 73 = .ok (.iand, 1) := by decide +kernel
theorem dX11_maps_74 : decode cX11_maps 74 = .ok (.istore_n 3, 1) := by decide +kernel
theorem dX11_maps_75 : decode cX11_maps 75 = .ok (.iload 4, 2) := by decide +kernel
theorem dX11_maps_77 : decode cX11_maps 77 = .ok (.iload 5, 2) := by decide +kernel
theorem dX11_maps_79 : decode cX11_maps 79 = .ok (.iconst (-1), 1) := by decide +kernel
theorem dX11_maps_80 : decode cX11_maps 80 = .ok (.ixor, 1) := by decide +kernel
theorem dX11_maps_81 : decode cX11_maps 81 = .ok (.iand, 1) := by decide +kernel
theorem dX11_maps_82 : decode cX11_maps 82 = .ok (.istore 4, 2) := by decide +kernel
theorem dX11_maps_84 : decode cX11_maps 84 = .ok (.aload_n 0, 1) := by decide +kernel
theorem dX11_maps_85 : decode cX11_maps 85 = .ok (.getfield 19, 3) := by decide +kernel
theorem dX11_maps_88 : decode cX11_maps 88 = .ok (.iload 5, 2) := by decide +kernel
theorem dX11_maps_90 : decode cX11_maps 90 = .ok (.invokevirtual 359, 3) := by decide +kernel
theorem dX11_maps_93 : decode cX11_maps 93 = .ok (.istore 5, 2) := by decide +kernel
theorem dX11_maps_95 : decode cX11_maps 95 = .ok (.iinc 6 1, 3) := by decide +kernel
theorem dX11_maps_98 : decode cX11_maps 98 = .ok (.goto (-67), 3) := by decide +kernel
theorem dX11_maps_101 : decode cX11_maps 101 = .ok (.aload_n 0, 1) := by decide +kernel
theorem dX11_maps_102 : decode cX11_maps 102 = .ok (.getfield 81, 3) := by decide +kernel
theorem dX11_maps_105 : decode cX11_maps 105 = .ok (.iload_n 2, 1) := by decide +kernel
theorem dX11_maps_106 : decode cX11_maps 106 = .ok (.i2l, 1) := by decide +kernel
theorem dX11_maps_107 : decode cX11_maps 107 = .ok (.iload_n 3, 1) := by decide +kernel
theorem dX11_maps_108 : decode cX11_maps 108 = .ok (.i2l, 1) := by decide +kernel
theorem dX11_maps_109 : decode cX11_maps 109 = .ok (.iload 4, 2) := by decide +kernel
theorem dX11_maps_111 : decode cX11_maps 111 = .ok (.i2l, 1) := by decide +kernel
theorem dX11_maps_112 : decode cX11_maps 112 = .ok (.invokevirtual 300, 3) := by decide +kernel
theorem dX11_maps_115 : decode cX11_maps 115 = .ok (.iload_n 1, 1) := by decide +kernel
theorem dX11_maps_116 : decode cX11_maps 116 = .ok (.ireturn, 1) := by decide +kernel
theorem dX11_marks_0 : decode cX11_marks 0 = .ok (.iload_n 1, 1) := by decide +kernel
theorem dX11_marks_1 : decode cX11_marks 1 = .ok (.iload_n 2, 1) := by decide +kernel
theorem dX11_marks_2 : decode cX11_marks 2 = .ok (.invokestatic 227, 3) := by decide +kernel
theorem dX11_marks_5 : decode cX11_marks 5 = .ok (.ifCond .eq 14, 3) := by decide +kernel
theorem dX11_marks_8 : decode cX11_marks 8 = .ok (.iload_n 3, 1) := by decide +kernel
theorem dX11_marks_9 : decode cX11_marks 9 = .ok (.ifCond .lt 10, 3) := by decide +kernel
theorem dX11_marks_12 : decode cX11_marks 12 = .ok (.iload_n 3, 1) := by decide +kernel
theorem dX11_marks_13 : decode cX11_marks 13 = .ok (.sipush 4096, 3) := by decide +kernel
theorem dX11_marks_16 : decode cX11_marks 16 = .ok (.if_icmp .lt 5, 3) := by decide +kernel
theorem dX11_marks_19 : decode cX11_marks 19 = .ok (.iconst (-1), 1) := by decide +kernel
theorem dX11_marks_20 : decode cX11_marks 20 = .ok (.ireturn, 1) := by decide +kernel
theorem dX11_marks_21 : decode cX11_marks 21 = .ok (.iconst 0, 1) := by decide +kernel
theorem dX11_marks_22 : decode cX11_marks 22 = .ok (.istore 4, 2) := by decide +kernel
theorem dX11_marks_24 : decode cX11_marks 24 = .ok (.iconst 0, 1) := by decide +kernel
theorem dX11_marks_25 : decode cX11_marks 25 = .ok (.istore 5, 2) := by decide +kernel
theorem dX11_marks_27 : decode cX11_marks 27 = .ok (.iconst (-1), 1) := by decide +kernel
theorem dX11_marks_28 : decode cX11_marks 28 = .ok (.istore 6, 2) := by decide +kernel
theorem dX11_marks_30 : decode cX11_marks 30 = .ok (.iconst 0, 1) := by decide +kernel
theorem dX11_marks_31 : decode cX11_marks 31 = .ok (.istore 7, 2) := by decide +kernel
theorem dX11_marks_33 : decode cX11_marks 33 = .ok (.iload 7, 2) := by decide +kernel
theorem dX11_marks_35 : decode cX11_marks 35 = .ok (.aload_n 0, 1) := by decide +kernel
theorem dX11_marks_36 : decode cX11_marks 36 = .ok (.getfield 19, 3) := by decide +kernel
theorem dX11_marks_39 : decode cX11_marks 39 = .ok (.getfield 323, 3) := by decide +kernel
theorem dX11_marks_42 : decode cX11_marks 42 = .ok (.if_icmp .ge 84, 3) := by decide +kernel
theorem dX11_marks_45 : decode cX11_marks 45 = .ok (.iconst 0, 1) := by decide +kernel
theorem dX11_marks_46 : decode cX11_marks 46 = .ok (.istore 8, 2) := by decide +kernel
theorem dX11_marks_48 : decode cX11_marks 48 = .ok (.iload 8, 2) := by decide +kernel
theorem dX11_marks_50 : decode cX11_marks 50 = .ok (.bipush 10, 2) := by decide +kernel
theorem dX11_marks_52 : decode cX11_marks 52 = .ok (.if_icmp .ge 68, 3) := by decide +kernel
theorem dX11_marks_55 : decode cX11_marks 55 = .ok (.aload_n 0, 1) := by decide +kernel
theorem dX11_marks_56 : decode cX11_marks 56 = .ok (.iload 7, 2) := by decide +kernel
theorem dX11_marks_58 : decode cX11_marks 58 = .ok (.iload_n 1, 1) := by decide +kernel
theorem dX11_marks_59 : decode cX11_marks 59 = .ok (.iload_n 2, 1) := by decide +kernel
theorem dX11_marks_60 : decode cX11_marks 60 = .ok (.iload 8, 2) := by decide +kernel
theorem dX11_marks_62 : decode cX11_marks 62 = .ok (.invokevirtual 313, 3) := by decide +kernel
theorem dX11_marks_65 : decode cX11_marks 65 = .ok (.istore 9, 2) := by decide +kernel
theorem dX11_marks_67 : decode cX11_marks 67 = .ok (.iload 9, 2) := by decide +kernel
theorem dX11_marks_69 : decode cX11_marks 69 = .ok (.iconst (-1), 1) := by decide +kernel
theorem dX11_marks_70 : decode cX11_marks 70 = .ok (.if_icmp .eq 44, 3) := by decide +kernel
theorem dX11_marks_73 : decode cX11_marks 73 = .ok (.aload_n 0, 1) := by decide +kernel
theorem dX11_marks_74 : decode cX11_marks 74 = .ok (.getfield 99, 3) := by decide +kernel
theorem dX11_marks_77 : decode cX11_marks 77 = .ok (.getfield 297, 3) := by decide +kernel
theorem dX11_marks_80 : decode cX11_marks 80 = .ok (.iconst 0, 1) := by decide +kernel
theorem dX11_marks_81 : decode cX11_marks 81 = .ok (.invokevirtual 184, 3) := by decide +kernel
theorem dX11_marks_84 : decode cX11_marks 84 = .ok (.iload_n 3, 1) := by decide +kernel
theorem dX11_marks_85 : decode cX11_marks 85 = .ok (.if_icmp .ne 29, 3) := by decide +kernel
theorem dX11_marks_88 : decode cX11_marks 88 = .ok (.iload 4, 2) := by decide +kernel
theorem dX11_marks_90 : decode cX11_marks 90 = .ok (.ifCond .ne 8, 3) := by decide +kernel
theorem dX11_marks_93 : decode cX11_marks 93 = .ok (.iload 8, 2) := by decide +kernel
theorem dX11_marks_95 : decode cX11_marks 95 = .ok (.goto 5, 3) := by decide +kernel
theorem dX11_marks_98 : decode cX11_marks 98 = .ok (.iload 6, 2) := by decide +kernel
theorem dX11_marks_100 : decode cX11_marks 100 = .ok (.istore 6, 2) := by decide +kernel
theorem dX11_marks_102 : decode cX11_marks 102 = .ok (.iinc 4 1, 3) := by decide +kernel
theorem dX11_marks_105 : decode cX11_marks 105 = .ok (.iload 5, 2) := by decide +kernel
theorem dX11_marks_107 : decode cX11_marks 107 = .ok (.iconst 1, 1) := by decide +kernel
theorem dX11_marks_108 : decode cX11_marks 108 = .ok (.iload 7, 2) := by decide +kernel
theorem dX11_marks_110 : decode cX11_marks 110 = .ok (.ishl, 1) := by decide +kernel
theorem dX11_marks_111 : decode cX11_marks 111 = .ok (.ior, 1) := by decide +kernel
theorem dX11_marks_112 : decode cX11_marks 112 = .ok (.istore 5, 2) := by decide +kernel
theorem dX11_marks_114 : decode cX11_marks 114 = .ok (.iinc 8 1, 3) := by decide +kernel
theorem dX11_marks_117 : decode cX11_marks 117 = .ok (.goto (-69), 3) := by decide +kernel
theorem dX11_marks_120 : decode cX11_marks 120 = .ok (.iinc 7 1, 3) := by decide +kernel
theorem dX11_marks_123 : decode cX11_marks 123 = .ok (.goto (-90), 3) := by decide +kernel
theorem dX11_marks_126 : decode cX11_marks 126 = .ok (.iload 4, 2) := by decide +kernel
theorem dX11_marks_128 : decode cX11_marks 128 = .ok (.ifCond .ne 14, 3) := by decide +kernel
theorem dX11_marks_131 : decode cX11_marks 131 = .ok (.aload_n 0, 1) := by decide +kernel
theorem dX11_marks_132 : decode cX11_marks 132 = .ok (.getfield 81, 3) := by decide +kernel
theorem dX11_marks_135 : decode cX11_marks 135 = .ok (.lconst 0, 1) := by decide +kernel
theorem dX11_marks_136 : decode cX11_marks 136 = .ok (.invokevirtual 307, 3) := by decide +kernel
theorem dX11_marks_139 : decode cX11_marks 139 = .ok (.goto 22, 3) := by decide +kernel
theorem dX11_marks_142 : decode cX11_marks 142 = .ok (.aload_n 0, 1) := by decide +kernel
theorem dX11_marks_143 : decode cX11_marks 143 = .ok (.getfield 81, 3) := by decide +kernel
theorem dX11_marks_146 : decode cX11_marks 146 = .ok (.iload 5, 2) := by decide +kernel
theorem dX11_marks_148 : decode cX11_marks 148 = .ok (.invokestatic 310, 3) := by decide +kernel
theorem dX11_marks_151 : decode cX11_marks 151 = .ok (.i2l, 1) := by decide +kernel
theorem dX11_marks_152 : decode cX11_marks 152 = .ok (.iload 6, 2) := by decide +kernel
theorem dX11_marks_154 : decode cX11_marks 154 = .ok (.i2l, 1) := by decide +kernel
theorem dX11_marks_155 : decode cX11_marks 155 = .ok (.iload 5, 2) := by decide +kernel
theorem dX11_marks_157 : decode cX11_marks 157 = .ok (.i2l, 1) := by decide +kernel
theorem dX11_marks_158 : decode cX11_marks 158 = .ok (.invokevirtual 300, 3) := by decide +kernel
theorem dX11_marks_161 : decode cX11_marks 161 = .ok (.iload 4, 2) := by decide +kernel
theorem dX11_marks_163 : decode cX11_marks 163 = .ok (.ireturn, 1) := by decide +kernel
theorem dX11_next_0 : decode cX11_next 0 = .ok (.aload_n 0, 1) := by decide +kernel
theorem dX11_next_1 : decode cX11_next 1 = .ok (.getfield 19, 3) := by decide +kernel
theorem dX11_next_4 : decode cX11_next 4 = .ok (.getfield 323, 3) := by decide +kernel
theorem dX11_next_7 : decode cX11_next 7 = .ok (.ifCond .eq 10, 3) := by decide +kernel
theorem dX11_next_10 : decode cX11_next 10 = .ok (.iload_n 1, 1) := by decide +kernel
theorem dX11_next_11 : decode cX11_next 11 = .ok (.invokestatic 366, 3) := by decide +kernel
theorem dX11_next_14 : decode cX11_next 14 = .ok (.ifCond .ne 5, 3) := by decide +kernel
theorem dX11_next_17 : decode cX11_next 17 = .ok (.iconst (-1), 1) := by decide +kernel
theorem dX11_next_18 : decode cX11_next 18 = .ok (.ireturn, 1) := by decide +kernel
theorem dX11_next_19 : decode cX11_next 19 = .ok (.aload_n 0, 1) := by decide +kernel
theorem dX11_next_20 : decode cX11_next 20 = .ok (.invokevirtual 372, 3) := by decide +kernel
theorem dX11_next_23 : decode cX11_next 23 = .ok (.iconst (-1), 1) := by decide +kernel
theorem dX11_next_24 : decode cX11_next 24 = .ok (.istore_n 2, 1) := by decide +kernel
theorem dX11_next_25 : decode cX11_next 25 = .ok (.sipush 4097, 3) := by decide +kernel
theorem dX11_next_28 : decode cX11_next 28 = .ok (.istore_n 3, 1) := by decide +kernel
theorem dX11_next_29 : decode cX11_next 29 = .ok (.iconst 0, 1) := by decide +kernel
theorem dX11_next_30 : decode cX11_next 30 = .ok (.istore 4, 2) := by decide +kernel
theorem dX11_next_32 : decode cX11_next 32 = .ok (.iload 4, 2) := by decide +kernel
theorem dX11_next_34 : decode cX11_next 34 = .ok (.aload_n 0, 1) := by decide +kernel
theorem dX11_next_35 : decode cX11_next 35 = .ok (.getfield 19, 3) := by decide +kernel
theorem dX11_next_38 : decode cX11_next 38 = .ok (.getfield 323, 3) := by decide +kernel
theorem dX11_next_41 : decode cX11_next 41 = .ok (.if_icmp .ge 44, 3) := by decide +kernel
theorem dX11_next_44 : decode cX11_next 44 = .ok (.aload_n 0, 1) := by decide +kernel
theorem dX11_next_45 : decode cX11_next 45 = .ok (.getfield 99, 3) := by decide +kernel
theorem dX11_next_48 : decode cX11_next 48 = .ok (.iload 4, 2) := by decide +kernel
theorem dX11_next_50 : decode cX11_next 50 = .ok (.bipush 99, 2) := by decide +kernel
theorem dX11_next_52 : decode cX11_next 52 = .ok (.iconst 0, 1) := by decide +kernel
theorem dX11_next_53 : decode cX11_next 53 = .ok (.iconst 0, 1) := by decide +kernel
theorem dX11_next_54 : decode cX11_next 54 = .ok (.iload_n 1, 1) := by decide +kernel
theorem dX11_next_55 : decode cX11_next 55 = .ok (.invokevirtual 327, 3) := by decide +kernel
theorem dX11_next_58 : decode cX11_next 58 = .ok (.aload_n 0, 1) := by decide +kernel
theorem dX11_next_59 : decode cX11_next 59 = .ok (.getfield 99, 3) := by decide +kernel
theorem dX11_next_62 : decode cX11_next 62 = .ok (.invokevirtual 381, 3) := by decide +kernel
theorem dX11_next_65 : decode cX11_next 65 = .ok (.istore 5, 2) := by decide +kernel
theorem dX11_next_67 : decode cX11_next 67 = .ok (.iload 5, 2) := by decide +kernel
theorem dX11_next_69 : decode cX11_next 69 = .ok (.iload_n 3, 1) := by decide +kernel
theorem dX11_next_70 : decode cX11_next 70 = .ok (.if_icmp .ge 9, 3) := by decide +kernel
theorem dX11_next_73 : decode cX11_next 73 = .ok (.iload 5, 2) := by decide +kernel
theorem dX11_next_75 : decode cX11_next 75 = .ok (.istore_n 3, 1) := by decide +kernel
theorem dX11_next_76 : decode cX11_next 76 = .ok (.iload 4, 2) := by decide +kernel
theorem dX11_next_78 : decode cX11_next 78 = .ok (.istore_n 2, 1) := by decide +kernel
theorem dX11_next_79 : decode cX11_next 79 = .ok (.iinc 4 1, 3) := by decide +kernel
theorem dX11_next_82 : decode cX11_next 82 = .ok (.goto (-50), 3) := by decide +kernel
theorem dX11_next_85 : decode cX11_next 85 = .ok (.iload_n 3, 1) := by decide +kernel
theorem dX11_next_86 : decode cX11_next 86 = .ok (.ifCond .ne 6, 3) := by decide +kernel
theorem dX11_next_89 : decode cX11_next 89 = .ok (.bipush (-2), 2) := by decide +kernel
theorem dX11_next_91 : decode cX11_next 91 = .ok (.ireturn, 1) := by decide +kernel
theorem dX11_next_92 : decode cX11_next 92 = .ok (.aload_n 0, 1) := by decide +kernel
theorem dX11_next_93 : decode cX11_next 93 = .ok (.getfield 81, 3) := by decide +kernel
theorem dX11_next_96 : decode cX11_next 96 = .ok (.iload_n 3, 1) := by decide +kernel
theorem dX11_next_97 : decode cX11_next 97 = .ok (.i2l, 1) := by decide +kernel
theorem dX11_next_98 : decode cX11_next 98 = .ok (.invokevirtual 307, 3) := by decide +kernel
theorem dX11_next_101 : decode cX11_next 101 = .ok (.iload_n 2, 1) := by decide +kernel
theorem dX11_next_102 : decode cX11_next 102 = .ok (.ireturn, 1) := by decide +kernel
theorem dX11_odds_0 : decode cX11_odds 0 = .ok (.aload_n 0, 1) := by decide +kernel
theorem dX11_odds_1 : decode cX11_odds 1 = .ok (.getfield 53, 3) := by decide +kernel
theorem dX11_odds_4 : decode cX11_odds 4 = .ok (.iload_n 1, 1) := by decide +kernel
theorem dX11_odds_5 : decode cX11_odds 5 = .ok (.invokevirtual 172, 3) := by decide +kernel
theorem dX11_odds_8 : decode cX11_odds 8 = .ok (.ifCond .eq 23, 3) := by decide +kernel
theorem dX11_odds_11 : decode cX11_odds 11 = .ok (.iload_n 2, 1) := by decide +kernel
theorem dX11_odds_12 : decode cX11_odds 12 = .ok (.ifCond .lt 19, 3) := by decide +kernel
theorem dX11_odds_15 : decode cX11_odds 15 = .ok (.iload_n 2, 1) := by decide +kernel
theorem dX11_odds_16 : decode cX11_odds 16 = .ok (.bipush 60, 2) := by decide +kernel
theorem dX11_odds_18 : decode cX11_odds 18 = .ok (.if_icmp .gt 13, 3) := by decide +kernel
theorem dX11_odds_21 : decode cX11_odds 21 = .ok (.iload_n 3, 1) := by decide +kernel
theorem dX11_odds_22 : decode cX11_odds 22 = .ok (.ifCond .lt 9, 3) := by decide +kernel
theorem dX11_odds_25 : decode cX11_odds 25 = .ok (.iload_n 3, 1) := by decide +kernel
theorem dX11_odds_26 : decode cX11_odds 26 = .ok (.bipush 10, 2) := by decide +kernel
theorem dX11_odds_28 : decode cX11_odds 28 = .ok (.if_icmp .le 5, 3) := by decide +kernel
theorem dX11_odds_31 : decode cX11_odds 31 = .ok (.iconst (-1), 1) := by decide +kernel
theorem dX11_odds_32 : decode cX11_odds 32 = .ok (.ireturn, 1) := by decide +kernel
theorem dX11_odds_33 : decode cX11_odds 33 = .ok (.aload_n 0, 1) := by decide +kernel
theorem dX11_odds_34 : decode cX11_odds 34 = .ok (.getfield 53, 3) := by decide +kernel
theorem dX11_odds_37 : decode cX11_odds 37 = .ok (.getfield 324, 3) := by decide +kernel
theorem dX11_odds_40 : decode cX11_odds 40 = .ok (.bipush 10, 2) := by decide +kernel
theorem dX11_odds_42 : decode cX11_odds 42 = .ok (.iadd, 1) := by decide +kernel
theorem dX11_odds_43 : decode cX11_odds 43 = .ok (.iconst 1, 1) := by decide +kernel
theorem dX11_odds_44 : decode cX11_odds 44 = .ok (.isub, 1) := by decide +kernel
theorem dX11_odds_45 : decode cX11_odds 45 = .ok (.bipush 10, 2) := by decide +kernel
theorem dX11_odds_47 : decode cX11_odds 47 = .ok (.idiv, 1) := by decide +kernel
theorem dX11_odds_48 : decode cX11_odds 48 = .ok (.istore 4, 2) := by decide +kernel
theorem dX11_odds_50 : decode cX11_odds 50 = .ok (.iload_n 2, 1) := by decide +kernel
theorem dX11_odds_51 : decode cX11_odds 51 = .ok (.ifCond .ne 7, 3) := by decide +kernel
theorem dX11_odds_54 : decode cX11_odds 54 = .ok (.iconst 0, 1) := by decide +kernel
theorem dX11_odds_55 : decode cX11_odds 55 = .ok (.goto 26, 3) := by decide +kernel
theorem dX11_odds_58 : decode cX11_odds 58 = .ok (.iconst 0, 1) := by decide +kernel
theorem dX11_odds_59 : decode cX11_odds 59 = .ok (.aload_n 0, 1) := by decide +kernel
theorem dX11_odds_60 : decode cX11_odds 60 = .ok (.getfield 53, 3) := by decide +kernel
theorem dX11_odds_63 : decode cX11_odds 63 = .ok (.getfield 324, 3) := by decide +kernel
theorem dX11_odds_66 : decode cX11_odds 66 = .ok (.iload_n 2, 1) := by decide +kernel
theorem dX11_odds_67 : decode cX11_odds 67 = .ok (.iadd, 1) := by decide +kernel
theorem dX11_odds_68 : decode cX11_odds 68 = .ok (.iconst 1, 1) := by decide +kernel
theorem dX11_odds_69 : decode cX11_odds 69 = .ok (.isub, 1) := by decide +kernel
theorem dX11_odds_70 : decode cX11_odds 70 = .ok (.bipush 10, 2) := by decide +kernel
theorem dX11_odds_72 : decode cX11_odds 72 = .ok (.idiv, 1) := by decide +kernel
theorem dX11_odds_73 : decode cX11_odds 73 = .ok (.iload 4, 2) := by decide +kernel
theorem dX11_odds_75 : decode cX11_odds 75 = .ok (.isub, 1) := by decide +kernel
theorem dX11_odds_76 : decode cX11_odds 76 = .ok (.iconst 1, 1) := by decide +kernel
theorem dX11_odds_77 : decode cX11_odds 77 = .ok (.iadd, 1) := by decide +kernel
theorem dX11_odds_78 : decode cX11_odds 78 = .ok (.invokestatic 224, 3) := by decide +kernel
theorem dX11_odds_81 : decode cX11_odds 81 = .ok (.istore 5, 2) := by decide +kernel
theorem dX11_odds_83 : decode cX11_odds 83 = .ok (.iconst 0, 1) := by decide +kernel
theorem dX11_odds_84 : decode cX11_odds 84 = .ok (.istore 6, 2) := by decide +kernel
theorem dX11_odds_86 : decode cX11_odds 86 = .ok (.iconst 1, 1) := by decide +kernel
theorem dX11_odds_87 : decode cX11_odds 87 = .ok (.istore 7, 2) := by decide +kernel
theorem dX11_odds_89 : decode cX11_odds 89 = .ok (.iconst 0, 1) := by decide +kernel
theorem dX11_odds_90 : decode cX11_odds 90 = .ok (.istore 8, 2) := by decide +kernel
theorem dX11_odds_92 : decode cX11_odds 92 = .ok (.iload 8, 2) := by decide +kernel
theorem dX11_odds_94 : decode cX11_odds 94 = .ok (.iload 5, 2) := by decide +kernel
theorem dX11_odds_96 : decode cX11_odds 96 = .ok (.if_icmp .ge 16, 3) := by decide +kernel
theorem dX11_odds_99 : decode cX11_odds 99 = .ok (.iload 7, 2) := by decide +kernel
theorem dX11_odds_101 : decode cX11_odds 101 = .ok (.bipush 10, 2) := by decide +kernel
theorem dX11_odds_103 : decode cX11_odds 103 = .ok (.imul, 1) := by decide +kernel
theorem dX11_odds_104 : decode cX11_odds 104 = .ok (.istore 7, 2) := by decide +kernel
theorem dX11_odds_106 : decode cX11_odds 106 = .ok (.iinc 8 1, 3) := by decide +kernel
theorem dX11_odds_109 : decode cX11_odds 109 = .ok (.goto (-17), 3) := by decide +kernel
theorem dX11_odds_112 : decode cX11_odds 112 = .ok (.aload_n 0, 1) := by decide +kernel
theorem dX11_odds_113 : decode cX11_odds 113 = .ok (.getfield 90, 3) := by decide +kernel
theorem dX11_odds_116 : decode cX11_odds 116 = .ok (.iload 4, 2) := by decide +kernel
theorem dX11_odds_118 : decode cX11_odds 118 = .ok (.putfield 401, 3) := by decide +kernel
theorem dX11_odds_121 : decode cX11_odds 121 = .ok (.iconst 0, 1) := by decide +kernel
theorem dX11_odds_122 : decode cX11_odds 122 = .ok (.istore 8, 2) := by decide +kernel
theorem dX11_odds_124 : decode cX11_odds 124 = .ok (.iload 8, 2) := by decide +kernel
theorem dX11_odds_126 : decode cX11_odds 126 = .ok (.iconst 1, 1) := by decide +kernel
theorem dX11_odds_127 : decode cX11_odds 127 = .ok (.iload 5, 2) := by decide +kernel
theorem dX11_odds_129 : decode cX11_odds 129 = .ok (.ishl, 1) := by decide +kernel
theorem dX11_odds_130 : decode cX11_odds 130 = .ok (.if_icmp .ge 71, 3) := by decide +kernel
theorem dX11_odds_133 : decode cX11_odds 133 = .ok (.iload 8, 2) := by decide +kernel
theorem dX11_odds_135 : decode cX11_odds 135 = .ok (.iload 5, 2) := by decide +kernel
theorem dX11_odds_137 : decode cX11_odds 137 = .ok (.iload_n 3, 1) := by decide +kernel
theorem dX11_odds_138 : decode cX11_odds 138 = .ok (.invokestatic 404, 3) := by decide +kernel
theorem dX11_odds_141 : decode cX11_odds 141 = .ok (.istore 9, 2) := by decide +kernel
theorem dX11_odds_143 : decode cX11_odds 143 = .ok (.iload 9, 2) := by decide +kernel
theorem dX11_odds_145 : decode cX11_odds 145 = .ok (.ifCond .le 50, 3) := by decide +kernel
theorem dX11_odds_148 : decode cX11_odds 148 = .ok (.aload_n 0, 1) := by decide +kernel
theorem dX11_odds_149 : decode cX11_odds 149 = .ok (.getfield 90, 3) := by decide +kernel
theorem dX11_odds_152 : decode cX11_odds 152 = .ok (.iload 8, 2) := by decide +kernel
theorem dX11_odds_154 : decode cX11_odds 154 = .ok (.putfield 408, 3) := by decide +kernel
theorem dX11_odds_157 : decode cX11_odds 157 = .ok (.aload_n 0, 1) := by decide +kernel
theorem dX11_odds_158 : decode cX11_odds 158 = .ok (.getfield 99, 3) := by decide +kernel
theorem dX11_odds_161 : decode cX11_odds 161 = .ok (.aload_n 0, 1) := by decide +kernel
theorem dX11_odds_162 : decode cX11_odds 162 = .ok (.getfield 53, 3) := by decide +kernel
theorem dX11_odds_165 : decode cX11_odds 165 = .ok (.iload_n 2, 1) := by decide +kernel
theorem dX11_odds_166 : decode cX11_odds 166 = .ok (.invokevirtual 293, 3) := by decide +kernel
theorem dX11_odds_169 : decode cX11_odds 169 = .ok (.iload 6, 2) := by decide +kernel
theorem dX11_odds_171 : decode cX11_odds 171 = .ok (.aload_n 0, 1) := by decide +kernel
theorem dX11_odds_172 : decode cX11_odds 172 = .ok (.getfield 99, 3) := by decide +kernel
theorem dX11_odds_175 : decode cX11_odds 175 = .ok (.getfield 297, 3) := by decide +kernel
theorem dX11_odds_178 : decode cX11_odds 178 = .ok (.iload_n 1, 1) := by decide +kernel
theorem dX11_odds_179 : decode cX11_odds 179 = .ok (.invokevirtual 187, 3) := by decide +kernel
theorem dX11_odds_182 : decode cX11_odds 182 = .ok (.iconst 1, 1) := by decide +kernel
theorem dX11_odds_183 : decode cX11_odds 183 = .ok (.if_icmp .ne 8, 3) := by decide +kernel
theorem dX11_odds_186 : decode cX11_odds 186 = .ok (.iload 9, 2) := by decide +kernel
theorem dX11_odds_188 : decode cX11_odds 188 = .ok (.goto 4, 3) := by decide +kernel
theorem dX11_odds_191 : decode cX11_odds 191 = .ok (.iconst 0, 1) := by decide +kernel
theorem dX11_odds_192 : decode cX11_odds 192 = .ok (.iadd, 1) := by decide +kernel
theorem dX11_odds_193 : decode cX11_odds 193 = .ok (.istore 6, 2) := by decide +kernel
theorem dX11_odds_195 : decode cX11_odds 195 = .ok (.iinc 8 1, 3) := by decide +kernel
theorem dX11_odds_198 : decode cX11_odds 198 = .ok (.goto (-74), 3) := by decide +kernel
theorem dX11_odds_201 : decode cX11_odds 201 = .ok (.aload_n 0, 1) := by decide +kernel
theorem dX11_odds_202 : decode cX11_odds 202 = .ok (.getfield 90, 3) := by decide +kernel
theorem dX11_odds_205 : decode cX11_odds 205 = .ok (.iconst 0, 1) := by decide +kernel
theorem dX11_odds_206 : decode cX11_odds 206 = .ok (.putfield 408, 3) := by decide +kernel
theorem dX11_odds_209 : decode cX11_odds 209 = .ok (.iload 6, 2) := by decide +kernel
theorem dX11_odds_211 : decode cX11_odds 211 = .ok (.iload 7, 2) := by decide +kernel
theorem dX11_odds_213 : decode cX11_odds 213 = .ok (.invokestatic 411, 3) := by decide +kernel
theorem dX11_odds_216 : decode cX11_odds 216 = .ok (.istore 8, 2) := by decide +kernel
theorem dX11_odds_218 : decode cX11_odds 218 = .ok (.aload_n 0, 1) := by decide +kernel
theorem dX11_odds_219 : decode cX11_odds 219 = .ok (.getfield 81, 3) := by decide +kernel
theorem dX11_odds_222 : decode cX11_odds 222 = .ok (.iload 6, 2) := by decide +kernel
theorem dX11_odds_224 : decode cX11_odds 224 = .ok (.iload 8, 2) := by decide +kernel
theorem dX11_odds_226 : decode cX11_odds 226 = .ok (.idiv, 1) := by decide +kernel
theorem dX11_odds_227 : decode cX11_odds 227 = .ok (.i2l, 1) := by decide +kernel
theorem dX11_odds_228 : decode cX11_odds 228 = .ok (.iload 7, 2) := by decide +kernel
theorem dX11_odds_230 : decode cX11_odds 230 = .ok (.iload 8, 2) := by decide +kernel
theorem dX11_odds_232 : decode cX11_odds 232 = .ok (.idiv, 1) := by decide +kernel
theorem dX11_odds_233 : decode cX11_odds 233 = .ok (.i2l, 1) := by decide +kernel
theorem dX11_odds_234 : decode cX11_odds 234 = .ok (.invokevirtual 257, 3) := by decide +kernel
theorem dX11_odds_237 : decode cX11_odds 237 = .ok (.iconst 0, 1) := by decide +kernel
theorem dX11_odds_238 : decode cX11_odds 238 = .ok (.ireturn, 1) := by decide +kernel
theorem dX11_order_0 : decode cX11_order 0 = .ok (.iload_n 1, 1) := by decide +kernel
theorem dX11_order_1 : decode cX11_order 1 = .ok (.iload_n 2, 1) := by decide +kernel
theorem dX11_order_2 : decode cX11_order 2 = .ok (.if_icmp .eq 25, 3) := by decide +kernel
theorem dX11_order_5 : decode cX11_order 5 = .ok (.aload_n 0, 1) := by decide +kernel
theorem dX11_order_6 : decode cX11_order 6 = .ok (.getfield 53, 3) := by decide +kernel
theorem dX11_order_9 : decode cX11_order 9 = .ok (.iload_n 1, 1) := by decide +kernel
theorem dX11_order_10 : decode cX11_order 10 = .ok (.invokevirtual 241, 3) := by decide +kernel
theorem dX11_order_13 : decode cX11_order 13 = .ok (.ifCond .eq 14, 3) := by decide +kernel
theorem dX11_order_16 : decode cX11_order 16 = .ok (.aload_n 0, 1) := by decide +kernel
theorem dX11_order_17 : decode cX11_order 17 = .ok (.getfield 53, 3) := by decide +kernel
theorem dX11_order_20 : decode cX11_order 20 = .ok (.iload_n 2, 1) := by decide +kernel
theorem dX11_order_21 : decode cX11_order 21 = .ok (.invokevirtual 241, 3) := by decide +kernel
theorem dX11_order_24 : decode cX11_order 24 = .ok (.ifCond .ne 5, 3) := by decide +kernel
theorem dX11_order_27 : decode cX11_order 27 = .ok (.iconst (-1), 1) := by decide +kernel
theorem dX11_order_28 : decode cX11_order 28 = .ok (.ireturn, 1) := by decide +kernel
theorem dX11_order_29 : decode cX11_order 29 = .ok (.aload_n 0, 1) := by decide +kernel
theorem dX11_order_30 : decode cX11_order 30 = .ok (.getfield 99, 3) := by decide +kernel
theorem dX11_order_33 : decode cX11_order 33 = .ok (.aload_n 0, 1) := by decide +kernel
theorem dX11_order_34 : decode cX11_order 34 = .ok (.getfield 53, 3) := by decide +kernel
theorem dX11_order_37 : decode cX11_order 37 = .ok (.iconst 1, 1) := by decide +kernel
theorem dX11_order_38 : decode cX11_order 38 = .ok (.iload_n 1, 1) := by decide +kernel
theorem dX11_order_39 : decode cX11_order 39 = .ok (.ishl, 1) := by decide +kernel
theorem dX11_order_40 : decode cX11_order 40 = .ok (.iconst 1, 1) := by decide +kernel
theorem dX11_order_41 : decode cX11_order 41 = .ok (.iload_n 2, 1) := by decide +kernel
theorem dX11_order_42 : decode cX11_order 42 = .ok (.ishl, 1) := by decide +kernel
theorem dX11_order_43 : decode cX11_order 43 = .ok (.ior, 1) := by decide +kernel
theorem dX11_order_44 : decode cX11_order 44 = .ok (.iload_n 1, 1) := by decide +kernel
theorem dX11_order_45 : decode cX11_order 45 = .ok (.invokevirtual 343, 3) := by decide +kernel
theorem dX11_order_48 : decode cX11_order 48 = .ok (.iconst 0, 1) := by decide +kernel
theorem dX11_order_49 : decode cX11_order 49 = .ok (.istore_n 3, 1) := by decide +kernel
theorem dX11_order_50 : decode cX11_order 50 = .ok (.iload_n 3, 1) := by decide +kernel
theorem dX11_order_51 : decode cX11_order 51 = .ok (.bipush 18, 2) := by decide +kernel
theorem dX11_order_53 : decode cX11_order 53 = .ok (.if_icmp .gt 146, 3) := by decide +kernel
theorem dX11_order_56 : decode cX11_order 56 = .ok (.iconst 0, 1) := by decide +kernel
theorem dX11_order_57 : decode cX11_order 57 = .ok (.istore 4, 2) := by decide +kernel
theorem dX11_order_59 : decode cX11_order 59 = .ok (.iconst (-1), 1) := by decide +kernel
theorem dX11_order_60 : decode cX11_order 60 = .ok (.istore 5, 2) := by decide +kernel
theorem dX11_order_62 : decode cX11_order 62 = .ok (.iconst 0, 1) := by decide +kernel
theorem dX11_order_63 : decode cX11_order 63 = .ok (.iload_n 3, 1) := by decide +kernel
theorem dX11_order_64 : decode cX11_order 64 = .ok (.bipush 9, 2) := by decide +kernel
theorem dX11_order_66 : decode cX11_order 66 = .ok (.isub, 1) := by decide +kernel
theorem dX11_order_67 : decode cX11_order 67 = .ok (.invokestatic 224, 3) := by decide +kernel
theorem dX11_order_70 : decode cX11_order 70 = .ok (.istore 6, 2) := by decide +kernel
theorem dX11_order_72 : decode cX11_order 72 = .ok (.iload 6, 2) := by decide +kernel
theorem dX11_order_74 : decode cX11_order 74 = .ok (.bipush 9, 2) := by decide +kernel
theorem dX11_order_76 : decode cX11_order 76 = .ok (.iload_n 3, 1) := by decide +kernel
theorem dX11_order_77 : decode cX11_order 77 = .ok (.invokestatic 219, 3) := by decide +kernel
theorem dX11_order_80 : decode cX11_order 80 = .ok (.if_icmp .gt 88, 3) := by decide +kernel
theorem dX11_order_83 : decode cX11_order 83 = .ok (.aload_n 0, 1) := by decide +kernel
theorem dX11_order_84 : decode cX11_order 84 = .ok (.getfield 99, 3) := by decide +kernel
theorem dX11_order_87 : decode cX11_order 87 = .ok (.getfield 414, 3) := by decide +kernel
theorem dX11_order_90 : decode cX11_order 90 = .ok (.iload_n 1, 1) := by decide +kernel
theorem dX11_order_91 : decode cX11_order 91 = .ok (.aload_n 0, 1) := by decide +kernel
theorem dX11_order_92 : decode cX11_order 92 = .ok (.getfield 53, 3) := by decide +kernel
theorem dX11_order_95 : decode cX11_order 95 = .ok (.getfield 324, 3) := by decide +kernel
theorem dX11_order_98 : decode cX11_order 98 = .ok (.iload 6, 2) := by decide +kernel
theorem dX11_order_100 : decode cX11_order 100 = .ok (.iadd, 1) := by decide +kernel
theorem dX11_order_101 : decode cX11_order 101 = .ok (.invokevirtual 417, 3) := by decide +kernel
theorem dX11_order_104 : decode cX11_order 104 = .ok (.aload_n 0, 1) := by decide +kernel
theorem dX11_order_105 : decode cX11_order 105 = .ok (.getfield 99, 3) := by decide +kernel
theorem dX11_order_108 : decode cX11_order 108 = .ok (.getfield 414, 3) := by decide +kernel
theorem dX11_order_111 : decode cX11_order 111 = .ok (.iload_n 2, 1) := by decide +kernel
theorem dX11_order_112 : decode cX11_order 112 = .ok (.aload_n 0, 1) := by decide +kernel
theorem dX11_order_113 : decode cX11_order 113 = .ok (.getfield 53, 3) := by decide +kernel
theorem dX11_order_116 : decode cX11_order 116 = .ok (.getfield 324, 3) := by decide +kernel
theorem dX11_order_119 : decode cX11_order 119 = .ok (.iload_n 3, 1) := by decide +kernel
theorem dX11_order_120 : decode cX11_order 120 = .ok (.iadd, 1) := by decide +kernel
theorem dX11_order_121 : decode cX11_order 121 = .ok (.iload 6, 2) := by decide +kernel
theorem dX11_order_123 : decode cX11_order 123 = .ok (.isub, 1) := by decide +kernel
theorem dX11_order_124 : decode cX11_order 124 = .ok (.invokevirtual 417, 3) := by decide +kernel
theorem dX11_order_127 : decode cX11_order 127 = .ok (.aload_n 0, 1) := by decide +kernel
theorem dX11_order_128 : decode cX11_order 128 = .ok (.getfield 99, 3) := by decide +kernel
theorem dX11_order_131 : decode cX11_order 131 = .ok (.aload_n 0, 1) := by decide +kernel
theorem dX11_order_132 : decode cX11_order 132 = .ok (.getfield 53, 3) := by decide +kernel
theorem dX11_order_135 : decode cX11_order 135 = .ok (.getfield 157, 3) := by decide +kernel
theorem dX11_order_138 : decode cX11_order 138 = .ok (.invokevirtual 420, 3) := by decide +kernel
theorem dX11_order_141 : decode cX11_order 141 = .ok (.iconst (-1), 1) := by decide +kernel
theorem dX11_order_142 : decode cX11_order 142 = .ok (.if_icmp .eq 20, 3) := by decide +kernel
theorem dX11_order_145 : decode cX11_order 145 = .ok (.iload 4, 2) := by decide +kernel
theorem dX11_order_147 : decode cX11_order 147 = .ok (.ifCond .ne 8, 3) := by decide +kernel
theorem dX11_order_150 : decode cX11_order 150 = .ok (.iload 6, 2) := by decide +kernel
theorem dX11_order_152 : decode cX11_order 152 = .ok (.goto 5, 3) := by decide +kernel
theorem dX11_order_155 : decode cX11_order 155 = .ok (.iload 5, 2) := by decide +kernel
theorem dX11_order_157 : decode cX11_order 157 = .ok (.istore 5, 2) := by decide +kernel
theorem dX11_order_159 : decode cX11_order 159 = .ok (.iinc 4 1, 3) := by decide +kernel
theorem dX11_order_162 : decode cX11_order 162 = .ok (.iinc 6 1, 3) := by decide +kernel
theorem dX11_order_165 : decode cX11_order 165 = .ok (.goto (-93), 3) := by decide +kernel
theorem dX11_order_168 : decode cX11_order 168 = .ok (.iload 4, 2) := by decide +kernel
theorem dX11_order_170 : decode cX11_order 170 = .ok (.ifCond .le 23, 3) := by decide +kernel
theorem dX11_order_173 : decode cX11_order 173 = .ok (.aload_n 0, 1) := by decide +kernel
theorem dX11_order_174 : decode cX11_order 174 = .ok (.getfield 81, 3) := by decide +kernel
theorem dX11_order_177 : decode cX11_order 177 = .ok (.iload 5, 2) := by decide +kernel
theorem dX11_order_179 : decode cX11_order 179 = .ok (.i2l, 1) := by decide +kernel
theorem dX11_order_180 : decode cX11_order 180 = .ok (.iload_n 3, 1) := by decide +kernel
theorem dX11_order_181 : decode cX11_order 181 = .ok (.iload 5, 2) := by decide +kernel
theorem dX11_order_183 : decode cX11_order 183 = .ok (.isub, 1) := by decide +kernel
theorem dX11_order_184 : decode cX11_order 184 = .ok (.i2l, 1) := by decide +kernel
theorem dX11_order_185 : decode cX11_order 185 = .ok (.iload 4, 2) := by decide +kernel
theorem dX11_order_187 : decode cX11_order 187 = .ok (.i2l, 1) := by decide +kernel
theorem dX11_order_188 : decode cX11_order 188 = .ok (.invokevirtual 300, 3) := by decide +kernel
theorem dX11_order_191 : decode cX11_order 191 = .ok (.iload_n 3, 1) := by decide +kernel
theorem dX11_order_192 : decode cX11_order 192 = .ok (.ireturn, 1) := by decide +kernel
theorem dX11_order_193 : decode cX11_order 193 = .ok (.iinc 3 1, 3) := by decide +kernel
theorem dX11_order_196 : decode cX11_order 196 = .ok (.goto (-146), 3) := by decide +kernel
theorem dX11_order_199 : decode cX11_order 199 = .ok (.bipush (-2), 2) := by decide +kernel
theorem dX11_order_201 : decode cX11_order 201 = .ok (.ireturn, 1) := by decide +kernel
theorem dX11_plank_0 : decode cX11_plank 0 = .ok (.aload_n 0, 1) := by decide +kernel
theorem dX11_plank_1 : decode cX11_plank 1 = .ok (.getfield 19, 3) := by decide +kernel
theorem dX11_plank_4 : decode cX11_plank 4 = .ok (.iload_n 1, 1) := by decide +kernel
theorem dX11_plank_5 : decode cX11_plank 5 = .ok (.invokevirtual 201, 3) := by decide +kernel
theorem dX11_plank_8 : decode cX11_plank 8 = .ok (.ifCond .eq 12, 3) := by decide +kernel
theorem dX11_plank_11 : decode cX11_plank 11 = .ok (.iload_n 2, 1) := by decide +kernel
theorem dX11_plank_12 : decode cX11_plank 12 = .ok (.ifCond .lt 8, 3) := by decide +kernel
theorem dX11_plank_15 : decode cX11_plank 15 = .ok (.iload_n 2, 1) := by decide +kernel
theorem dX11_plank_16 : decode cX11_plank 16 = .ok (.iconst 1, 1) := by decide +kernel
theorem dX11_plank_17 : decode cX11_plank 17 = .ok (.if_icmp .le 5, 3) := by decide +kernel
theorem dX11_plank_20 : decode cX11_plank 20 = .ok (.iconst 0, 1) := by decide +kernel
theorem dX11_plank_21 : decode cX11_plank 21 = .ok (.ireturn, 1) := by decide +kernel
theorem dX11_plank_22 : decode cX11_plank 22 = .ok (.aload_n 0, 1) := by decide +kernel
theorem dX11_plank_23 : decode cX11_plank 23 = .ok (.getfield 63, 3) := by decide +kernel
theorem dX11_plank_26 : decode cX11_plank 26 = .ok (.aload_n 0, 1) := by decide +kernel
theorem dX11_plank_27 : decode cX11_plank 27 = .ok (.getfield 53, 3) := by decide +kernel
theorem dX11_plank_30 : decode cX11_plank 30 = .ok (.invokevirtual 204, 3) := by decide +kernel
theorem dX11_plank_33 : decode cX11_plank 33 = .ok (.aload_n 0, 1) := by decide +kernel
theorem dX11_plank_34 : decode cX11_plank 34 = .ok (.getfield 53, 3) := by decide +kernel
theorem dX11_plank_37 : decode cX11_plank 37 = .ok (.aload_n 0, 1) := by decide +kernel
theorem dX11_plank_38 : decode cX11_plank 38 = .ok (.getfield 53, 3) := by decide +kernel
theorem dX11_plank_41 : decode cX11_plank 41 = .ok (.getfield 157, 3) := by decide +kernel
theorem dX11_plank_44 : decode cX11_plank 44 = .ok (.iconst 1, 1) := by decide +kernel
theorem dX11_plank_45 : decode cX11_plank 45 = .ok (.iload_n 1, 1) := by decide +kernel
theorem dX11_plank_46 : decode cX11_plank 46 = .ok (.ishl, 1) := by decide +kernel
theorem dX11_plank_47 : decode cX11_plank 47 = .ok (.iconst (-1), 1) := by decide +kernel
theorem dX11_plank_48 : decode cX11_plank 48 = .ok (.ixor, 1) := by decide +kernel
theorem dX11_plank_49 : decode cX11_plank 49 = .ok (.iand, 1) := by decide +kernel
theorem dX11_plank_50 : decode cX11_plank 50 = .ok (.iload_n 2, 1) := by decide +kernel
theorem dX11_plank_51 : decode cX11_plank 51 = .ok (.iload_n 1, 1) := by decide +kernel
theorem dX11_plank_52 : decode cX11_plank 52 = .ok (.ishl, 1) := by decide +kernel
theorem dX11_plank_53 : decode cX11_plank 53 = .ok (.ior, 1) := by decide +kernel
theorem dX11_plank_54 : decode cX11_plank 54 = .ok (.putfield 157, 3) := by decide +kernel
theorem dX11_plank_57 : decode cX11_plank 57 = .ok (.iconst 1, 1) := by decide +kernel
theorem dX11_plank_58 : decode cX11_plank 58 = .ok (.ireturn, 1) := by decide +kernel
theorem dX11_put_0 : decode cX11_put 0 = .ok (.aload_n 0, 1) := by decide +kernel
theorem dX11_put_1 : decode cX11_put 1 = .ok (.getfield 19, 3) := by decide +kernel
theorem dX11_put_4 : decode cX11_put 4 = .ok (.iload_n 1, 1) := by decide +kernel
theorem dX11_put_5 : decode cX11_put 5 = .ok (.invokevirtual 137, 3) := by decide +kernel
theorem dX11_put_8 : decode cX11_put 8 = .ok (.ifCond .eq 19, 3) := by decide +kernel
theorem dX11_put_11 : decode cX11_put 11 = .ok (.iload_n 2, 1) := by decide +kernel
theorem dX11_put_12 : decode cX11_put 12 = .ok (.iload_n 3, 1) := by decide +kernel
theorem dX11_put_13 : decode cX11_put 13 = .ok (.invokestatic 227, 3) := by decide +kernel
theorem dX11_put_16 : decode cX11_put 16 = .ok (.ifCond .eq 11, 3) := by decide +kernel
theorem dX11_put_19 : decode cX11_put 19 = .ok (.iload 4, 2) := by decide +kernel
theorem dX11_put_21 : decode cX11_put 21 = .ok (.invokestatic 231, 3) := by decide +kernel
theorem dX11_put_24 : decode cX11_put 24 = .ok (.ifCond .ne 5, 3) := by decide +kernel
theorem dX11_put_27 : decode cX11_put 27 = .ok (.iconst (-1), 1) := by decide +kernel
theorem dX11_put_28 : decode cX11_put 28 = .ok (.ireturn, 1) := by decide +kernel
theorem dX11_put_29 : decode cX11_put 29 = .ok (.aload_n 0, 1) := by decide +kernel
theorem dX11_put_30 : decode cX11_put 30 = .ok (.getfield 53, 3) := by decide +kernel
theorem dX11_put_33 : decode cX11_put 33 = .ok (.getfield 208, 3) := by decide +kernel
theorem dX11_put_36 : decode cX11_put 36 = .ok (.bipush 6, 2) := by decide +kernel
theorem dX11_put_38 : decode cX11_put 38 = .ok (.if_icmp .lt 6, 3) := by decide +kernel
theorem dX11_put_41 : decode cX11_put 41 = .ok (.bipush (-2), 2) := by decide +kernel
theorem dX11_put_43 : decode cX11_put 43 = .ok (.ireturn, 1) := by decide +kernel
theorem dX11_put_44 : decode cX11_put 44 = .ok (.aload_n 0, 1) := by decide +kernel
theorem dX11_put_45 : decode cX11_put 45 = .ok (.getfield 63, 3) := by decide +kernel
theorem dX11_put_48 : decode cX11_put 48 = .ok (.aload_n 0, 1) := by decide +kernel
theorem dX11_put_49 : decode cX11_put 49 = .ok (.getfield 53, 3) := by decide +kernel
theorem dX11_put_52 : decode cX11_put 52 = .ok (.invokevirtual 204, 3) := by decide +kernel
theorem dX11_put_55 : decode cX11_put 55 = .ok (.aload_n 0, 1) := by decide +kernel
theorem dX11_put_56 : decode cX11_put 56 = .ok (.getfield 53, 3) := by decide +kernel
theorem dX11_put_59 : decode cX11_put 59 = .ok (.iload_n 1, 1) := by decide +kernel
theorem dX11_put_60 : decode cX11_put 60 = .ok (.iload_n 2, 1) := by decide +kernel
theorem dX11_put_61 : decode cX11_put 61 = .ok (.iload_n 3, 1) := by decide +kernel
theorem dX11_put_62 : decode cX11_put 62 = .ok (.iload 4, 2) := by decide +kernel
theorem dX11_put_64 : decode cX11_put 64 = .ok (.aload_n 0, 1) := by decide +kernel
theorem dX11_put_65 : decode cX11_put 65 = .ok (.getfield 19, 3) := by decide +kernel
theorem dX11_put_68 : decode cX11_put 68 = .ok (.iload_n 1, 1) := by decide +kernel
theorem dX11_put_69 : decode cX11_put 69 = .ok (.invokevirtual 234, 3) := by decide +kernel
theorem dX11_put_72 : decode cX11_put 72 = .ok (.invokevirtual 237, 3) := by decide +kernel
theorem dX11_put_75 : decode cX11_put 75 = .ok (.ireturn, 1) := by decide +kernel
theorem dX11_round_0 : decode cX11_round 0 = .ok (.aload_n 0, 1) := by decide +kernel
theorem dX11_round_1 : decode cX11_round 1 = .ok (.getfield 19, 3) := by decide +kernel
theorem dX11_round_4 : decode cX11_round 4 = .ok (.iload_n 1, 1) := by decide +kernel
theorem dX11_round_5 : decode cX11_round 5 = .ok (.invokevirtual 137, 3) := by decide +kernel
theorem dX11_round_8 : decode cX11_round 8 = .ok (.ifCond .ne 5, 3) := by decide +kernel
theorem dX11_round_11 : decode cX11_round 11 = .ok (.iconst (-1), 1) := by decide +kernel
theorem dX11_round_12 : decode cX11_round 12 = .ok (.ireturn, 1) := by decide +kernel
theorem dX11_round_13 : decode cX11_round 13 = .ok (.aload_n 0, 1) := by decide +kernel
theorem dX11_round_14 : decode cX11_round 14 = .ok (.getfield 99, 3) := by decide +kernel
theorem dX11_round_17 : decode cX11_round 17 = .ok (.iload_n 1, 1) := by decide +kernel
theorem dX11_round_18 : decode cX11_round 18 = .ok (.bipush 99, 2) := by decide +kernel
theorem dX11_round_20 : decode cX11_round 20 = .ok (.bipush 9, 2) := by decide +kernel
theorem dX11_round_22 : decode cX11_round 22 = .ok (.iconst 0, 1) := by decide +kernel
theorem dX11_round_23 : decode cX11_round 23 = .ok (.aload_n 0, 1) := by decide +kernel
theorem dX11_round_24 : decode cX11_round 24 = .ok (.getfield 53, 3) := by decide +kernel
theorem dX11_round_27 : decode cX11_round 27 = .ok (.getfield 324, 3) := by decide +kernel
theorem dX11_round_30 : decode cX11_round 30 = .ok (.invokevirtual 327, 3) := by decide +kernel
theorem dX11_round_33 : decode cX11_round 33 = .ok (.aload_n 0, 1) := by decide +kernel
theorem dX11_round_34 : decode cX11_round 34 = .ok (.getfield 99, 3) := by decide +kernel
theorem dX11_round_37 : decode cX11_round 37 = .ok (.aload_n 0, 1) := by decide +kernel
theorem dX11_round_38 : decode cX11_round 38 = .ok (.getfield 53, 3) := by decide +kernel
theorem dX11_round_41 : decode cX11_round 41 = .ok (.getfield 157, 3) := by decide +kernel
theorem dX11_round_44 : decode cX11_round 44 = .ok (.invokevirtual 331, 3) := by decide +kernel
theorem dX11_round_47 : decode cX11_round 47 = .ok (.aload_n 0, 1) := by decide +kernel
theorem dX11_round_48 : decode cX11_round 48 = .ok (.getfield 90, 3) := by decide +kernel
theorem dX11_round_51 : decode cX11_round 51 = .ok (.iconst 1, 1) := by decide +kernel
theorem dX11_round_52 : decode cX11_round 52 = .ok (.putfield 334, 3) := by decide +kernel
theorem dX11_round_55 : decode cX11_round 55 = .ok (.aload_n 0, 1) := by decide +kernel
theorem dX11_round_56 : decode cX11_round 56 = .ok (.getfield 99, 3) := by decide +kernel
theorem dX11_round_59 : decode cX11_round 59 = .ok (.iload_n 1, 1) := by decide +kernel
theorem dX11_round_60 : decode cX11_round 60 = .ok (.sipush 300, 3) := by decide +kernel
theorem dX11_round_63 : decode cX11_round 63 = .ok (.invokevirtual 338, 3) := by decide +kernel
theorem dX11_round_66 : decode cX11_round 66 = .ok (.istore_n 2, 1) := by decide +kernel
theorem dX11_round_67 : decode cX11_round 67 = .ok (.iload_n 2, 1) := by decide +kernel
theorem dX11_round_68 : decode cX11_round 68 = .ok (.iconst (-1), 1) := by decide +kernel
theorem dX11_round_69 : decode cX11_round 69 = .ok (.if_icmp .ne 7, 3) := by decide +kernel
theorem dX11_round_72 : decode cX11_round 72 = .ok (.iconst (-1), 1) := by decide +kernel
theorem dX11_round_73 : decode cX11_round 73 = .ok (.goto 16, 3) := by decide +kernel
theorem dX11_round_76 : decode cX11_round 76 = .ok (.aload_n 0, 1) := by decide +kernel
theorem dX11_round_77 : decode cX11_round 77 = .ok (.getfield 99, 3) := by decide +kernel
theorem dX11_round_80 : decode cX11_round 80 = .ok (.iload_n 1, 1) := by decide +kernel
theorem dX11_round_81 : decode cX11_round 81 = .ok (.sipush 300, 3) := by decide +kernel
theorem dX11_round_84 : decode cX11_round 84 = .ok (.iload_n 2, 1) := by decide +kernel
theorem dX11_round_85 : decode cX11_round 85 = .ok (.isub, 1) := by decide +kernel
theorem dX11_round_86 : decode cX11_round 86 = .ok (.invokevirtual 338, 3) := by decide +kernel
theorem dX11_round_89 : decode cX11_round 89 = .ok (.istore_n 3, 1) := by decide +kernel
theorem dX11_round_90 : decode cX11_round 90 = .ok (.aload_n 0, 1) := by decide +kernel
theorem dX11_round_91 : decode cX11_round 91 = .ok (.getfield 90, 3) := by decide +kernel
theorem dX11_round_94 : decode cX11_round 94 = .ok (.iconst 0, 1) := by decide +kernel
theorem dX11_round_95 : decode cX11_round 95 = .ok (.putfield 334, 3) := by decide +kernel
theorem dX11_round_98 : decode cX11_round 98 = .ok (.iload_n 2, 1) := by decide +kernel
theorem dX11_round_99 : decode cX11_round 99 = .ok (.iconst (-1), 1) := by decide +kernel
theorem dX11_round_100 : decode cX11_round 100 = .ok (.if_icmp .ne 6, 3) := by decide +kernel
theorem dX11_round_103 : decode cX11_round 103 = .ok (.bipush (-2), 2) := by decide +kernel
theorem dX11_round_105 : decode cX11_round 105 = .ok (.ireturn, 1) := by decide +kernel
theorem dX11_round_106 : decode cX11_round 106 = .ok (.aload_n 0, 1) := by decide +kernel
theorem dX11_round_107 : decode cX11_round 107 = .ok (.getfield 81, 3) := by decide +kernel
theorem dX11_round_110 : decode cX11_round 110 = .ok (.iload_n 3, 1) := by decide +kernel
theorem dX11_round_111 : decode cX11_round 111 = .ok (.iconst (-1), 1) := by decide +kernel
theorem dX11_round_112 : decode cX11_round 112 = .ok (.if_icmp .ne 9, 3) := by decide +kernel
theorem dX11_round_115 : decode cX11_round 115 = .ok (.ldc2_w 341, 3) := by decide +kernel
theorem dX11_round_118 : decode cX11_round 118 = .ok (.goto 5, 3) := by decide +kernel
theorem dX11_round_121 : decode cX11_round 121 = .ok (.iload_n 3, 1) := by decide +kernel
theorem dX11_round_122 : decode cX11_round 122 = .ok (.i2l, 1) := by decide +kernel
theorem dX11_round_123 : decode cX11_round 123 = .ok (.invokevirtual 307, 3) := by decide +kernel
theorem dX11_round_126 : decode cX11_round 126 = .ok (.iload_n 2, 1) := by decide +kernel
theorem dX11_round_127 : decode cX11_round 127 = .ok (.ireturn, 1) := by decide +kernel
theorem dX11_weightOf_0 : decode cX11_weightOf 0 = .ok (.iconst 1, 1) := by decide +kernel
theorem dX11_weightOf_1 : decode cX11_weightOf 1 = .ok (.istore_n 3, 1) := by decide +kernel
theorem dX11_weightOf_2 : decode cX11_weightOf 2 = .ok (.iconst 0, 1) := by decide +kernel
theorem dX11_weightOf_3 : decode cX11_weightOf 3 = .ok (.istore 4, 2) := by decide +kernel
theorem dX11_weightOf_5 : decode cX11_weightOf 5 = .ok (.iload 4, 2) := by decide +kernel
theorem dX11_weightOf_7 : decode cX11_weightOf 7 = .ok (.iload_n 1, 1) := by decide +kernel
theorem dX11_weightOf_8 : decode cX11_weightOf 8 = .ok (.if_icmp .ge 29, 3) := by decide +kernel
theorem dX11_weightOf_11 : decode cX11_weightOf 11 = .ok (.iload_n 3, 1) := by decide +kernel
theorem dX11_weightOf_12 : decode cX11_weightOf 12 = .ok (.iload_n 0, 1) := by decide +kernel
theorem dX11_weightOf_13 : decode cX11_weightOf 13 = .ok (.iload 4, 2) := by decide +kernel
theorem dX11_weightOf_15 : decode cX11_weightOf 15 = .ok (.ishr, 1) := by decide +kernel
theorem dX11_weightOf_16 : decode cX11_weightOf 16 = .ok (.iconst 1, 1) := by decide +kernel
theorem dX11_weightOf_17 : decode cX11_weightOf 17 = .ok (.iand, 1) := by decide +kernel
theorem dX11_weightOf_18 : decode cX11_weightOf 18 = .ok (.ifCond .eq 7, 3) := by decide +kernel
theorem dX11_weightOf_21 : decode cX11_weightOf 21 = .ok (.iload_n 2, 1) := by decide +kernel
theorem dX11_weightOf_22 : decode cX11_weightOf 22 = .ok (.goto 7, 3) := by decide +kernel
theorem dX11_weightOf_25 : decode cX11_weightOf 25 = .ok (.bipush 10, 2) := by decide +kernel
theorem dX11_weightOf_27 : decode cX11_weightOf 27 = .ok (.iload_n 2, 1) := by decide +kernel
theorem dX11_weightOf_28 : decode cX11_weightOf 28 = .ok (.isub, 1) := by decide +kernel
theorem dX11_weightOf_29 : decode cX11_weightOf 29 = .ok (.imul, 1) := by decide +kernel
theorem dX11_weightOf_30 : decode cX11_weightOf 30 = .ok (.istore_n 3, 1) := by decide +kernel
theorem dX11_weightOf_31 : decode cX11_weightOf 31 = .ok (.iinc 4 1, 3) := by decide +kernel
theorem dX11_weightOf_34 : decode cX11_weightOf 34 = .ok (.goto (-29), 3) := by decide +kernel
theorem dX11_weightOf_37 : decode cX11_weightOf 37 = .ok (.iload_n 3, 1) := by decide +kernel
theorem dX11_weightOf_38 : decode cX11_weightOf 38 = .ok (.ireturn, 1) := by decide +kernel
theorem dX1_seesOthers_0 : decode cX1_seesOthers 0 = .ok (.aload_n 0, 1) := by decide +kernel
theorem dX1_seesOthers_1 : decode cX1_seesOthers 1 = .ok (.getfield 25, 3) := by decide +kernel
theorem dX1_seesOthers_4 : decode cX1_seesOthers 4 = .ok (.getfield 29, 3) := by decide +kernel
theorem dX1_seesOthers_7 : decode cX1_seesOthers 7 = .ok (.ireturn, 1) := by decide +kernel
theorem dX4_tell___0 : decode cX4_tell__ 0 = .ok (.aload_n 0, 1) := by decide +kernel
theorem dX4_tell___1 : decode cX4_tell__ 1 = .ok (.getfield 9, 3) := by decide +kernel
theorem dX4_tell___4 : decode cX4_tell__ 4 = .ok (.iconst 0, 1) := by decide +kernel
theorem dX4_tell___5 : decode cX4_tell__ 5 = .ok (.lload_n 1, 1) := by decide +kernel
theorem dX4_tell___6 : decode cX4_tell__ 6 = .ok (.lastore, 1) := by decide +kernel
theorem dX4_tell___7 : decode cX4_tell__ 7 = .ok (.aload_n 0, 1) := by decide +kernel
theorem dX4_tell___8 : decode cX4_tell__ 8 = .ok (.getfield 9, 3) := by decide +kernel
theorem dX4_tell___11 : decode cX4_tell__ 11 = .ok (.iconst 1, 1) := by decide +kernel
theorem dX4_tell___12 : decode cX4_tell__ 12 = .ok (.lload_n 3, 1) := by decide +kernel
theorem dX4_tell___13 : decode cX4_tell__ 13 = .ok (.lastore, 1) := by decide +kernel
theorem dX4_tell___14 : decode cX4_tell__ 14 = .ok (.aload_n 0, 1) := by decide +kernel
theorem dX4_tell___15 : decode cX4_tell__ 15 = .ok (.getfield 9, 3) := by decide +kernel
theorem dX4_tell___18 : decode cX4_tell__ 18 = .ok (.iconst 2, 1) := by decide +kernel
theorem dX4_tell___19 : decode cX4_tell__ 19 = .ok (.lload 5, 2) := by decide +kernel
theorem dX4_tell___21 : decode cX4_tell__ 21 = .ok (.lastore, 1) := by decide +kernel
theorem dX4_tell___22 : decode cX4_tell__ 22 = .ok (.aload_n 0, 1) := by decide +kernel
theorem dX4_tell___23 : decode cX4_tell__ 23 = .ok (.iconst 3, 1) := by decide +kernel
theorem dX4_tell___24 : decode cX4_tell__ 24 = .ok (.putfield 13, 3) := by decide +kernel
theorem dX4_tell___27 : decode cX4_tell__ 27 = .ok (.return_, 1) := by decide +kernel
theorem dX5_addFact_0 : decode cX5_addFact 0 = .ok (.aload_n 0, 1) := by decide +kernel
theorem dX5_addFact_1 : decode cX5_addFact 1 = .ok (.dup, 1) := by decide +kernel
theorem dX5_addFact_2 : decode cX5_addFact 2 = .ok (.getfield 23, 3) := by decide +kernel
theorem dX5_addFact_5 : decode cX5_addFact 5 = .ok (.iload_n 1, 1) := by decide +kernel
theorem dX5_addFact_6 : decode cX5_addFact 6 = .ok (.ifCond .ne 7, 3) := by decide +kernel
theorem dX5_addFact_9 : decode cX5_addFact 9 = .ok (.iconst 1, 1) := by decide +kernel
theorem dX5_addFact_10 : decode cX5_addFact 10 = .ok (.goto 4, 3) := by decide +kernel
theorem dX5_addFact_13 : decode cX5_addFact 13 = .ok (.iconst 0, 1) := by decide +kernel
theorem dX5_addFact_14 : decode cX5_addFact 14 = .ok (.ior, 1) := by decide +kernel
theorem dX5_addFact_15 : decode cX5_addFact 15 = .ok (.putfield 23, 3) := by decide +kernel
theorem dX5_addFact_18 : decode cX5_addFact 18 = .ok (.aload_n 0, 1) := by decide +kernel
theorem dX5_addFact_19 : decode cX5_addFact 19 = .ok (.dup, 1) := by decide +kernel
theorem dX5_addFact_20 : decode cX5_addFact 20 = .ok (.getfield 27, 3) := by decide +kernel
theorem dX5_addFact_23 : decode cX5_addFact 23 = .ok (.iload_n 1, 1) := by decide +kernel
theorem dX5_addFact_24 : decode cX5_addFact 24 = .ok (.bipush 6, 2) := by decide +kernel
theorem dX5_addFact_26 : decode cX5_addFact 26 = .ok (.if_icmp .ne 7, 3) := by decide +kernel
theorem dX5_addFact_29 : decode cX5_addFact 29 = .ok (.iconst 1, 1) := by decide +kernel
theorem dX5_addFact_30 : decode cX5_addFact 30 = .ok (.goto 4, 3) := by decide +kernel
theorem dX5_addFact_33 : decode cX5_addFact 33 = .ok (.iconst 0, 1) := by decide +kernel
theorem dX5_addFact_34 : decode cX5_addFact 34 = .ok (.ior, 1) := by decide +kernel
theorem dX5_addFact_35 : decode cX5_addFact 35 = .ok (.putfield 27, 3) := by decide +kernel
theorem dX5_addFact_38 : decode cX5_addFact 38 = .ok (.aload_n 0, 1) := by decide +kernel
theorem dX5_addFact_39 : decode cX5_addFact 39 = .ok (.iload_n 1, 1) := by decide +kernel
theorem dX5_addFact_40 : decode cX5_addFact 40 = .ok (.invokevirtual 84, 3) := by decide +kernel
theorem dX5_addFact_43 : decode cX5_addFact 43 = .ok (.aload_n 0, 1) := by decide +kernel
theorem dX5_addFact_44 : decode cX5_addFact 44 = .ok (.iconst 3, 1) := by decide +kernel
theorem dX5_addFact_45 : decode cX5_addFact 45 = .ok (.putfield 69, 3) := by decide +kernel
theorem dX5_addFact_48 : decode cX5_addFact 48 = .ok (.aload_n 0, 1) := by decide +kernel
theorem dX5_addFact_49 : decode cX5_addFact 49 = .ok (.iconst 0, 1) := by decide +kernel
theorem dX5_addFact_50 : decode cX5_addFact 50 = .ok (.putfield 50, 3) := by decide +kernel
theorem dX5_addFact_53 : decode cX5_addFact 53 = .ok (.return_, 1) := by decide +kernel
theorem dX5_addStep_0 : decode cX5_addStep 0 = .ok (.aload_n 0, 1) := by decide +kernel
theorem dX5_addStep_1 : decode cX5_addStep 1 = .ok (.getfield 19, 3) := by decide +kernel
theorem dX5_addStep_4 : decode cX5_addStep 4 = .ok (.ifCond .lt 32, 3) := by decide +kernel
theorem dX5_addStep_7 : decode cX5_addStep 7 = .ok (.aload_n 0, 1) := by decide +kernel
theorem dX5_addStep_8 : decode cX5_addStep 8 = .ok (.getfield 19, 3) := by decide +kernel
theorem dX5_addStep_11 : decode cX5_addStep 11 = .ok (.bipush 40, 2) := by decide +kernel
theorem dX5_addStep_13 : decode cX5_addStep 13 = .ok (.if_icmp .ge 23, 3) := by decide +kernel
theorem dX5_addStep_16 : decode cX5_addStep 16 = .ok (.aload_n 0, 1) := by decide +kernel
theorem dX5_addStep_17 : decode cX5_addStep 17 = .ok (.getfield 9, 3) := by decide +kernel
theorem dX5_addStep_20 : decode cX5_addStep 20 = .ok (.aload_n 0, 1) := by decide +kernel
theorem dX5_addStep_21 : decode cX5_addStep 21 = .ok (.getfield 19, 3) := by decide +kernel
theorem dX5_addStep_24 : decode cX5_addStep 24 = .ok (.iload_n 1, 1) := by decide +kernel
theorem dX5_addStep_25 : decode cX5_addStep 25 = .ok (.iastore, 1) := by decide +kernel
theorem dX5_addStep_26 : decode cX5_addStep 26 = .ok (.aload_n 0, 1) := by decide +kernel
theorem dX5_addStep_27 : decode cX5_addStep 27 = .ok (.dup, 1) := by decide +kernel
theorem dX5_addStep_28 : decode cX5_addStep 28 = .ok (.getfield 19, 3) := by decide +kernel
theorem dX5_addStep_31 : decode cX5_addStep 31 = .ok (.iconst 1, 1) := by decide +kernel
theorem dX5_addStep_32 : decode cX5_addStep 32 = .ok (.iadd, 1) := by decide +kernel
theorem dX5_addStep_33 : decode cX5_addStep 33 = .ok (.putfield 19, 3) := by decide +kernel
theorem dX5_addStep_36 : decode cX5_addStep 36 = .ok (.return_, 1) := by decide +kernel
theorem dX5_clear_0 : decode cX5_clear 0 = .ok (.aload_n 0, 1) := by decide +kernel
theorem dX5_clear_1 : decode cX5_clear 1 = .ok (.iconst 0, 1) := by decide +kernel
theorem dX5_clear_2 : decode cX5_clear 2 = .ok (.putfield 19, 3) := by decide +kernel
theorem dX5_clear_5 : decode cX5_clear 5 = .ok (.aload_n 0, 1) := by decide +kernel
theorem dX5_clear_6 : decode cX5_clear 6 = .ok (.iconst 0, 1) := by decide +kernel
theorem dX5_clear_7 : decode cX5_clear 7 = .ok (.putfield 60, 3) := by decide +kernel
theorem dX5_clear_10 : decode cX5_clear 10 = .ok (.aload_n 0, 1) := by decide +kernel
theorem dX5_clear_11 : decode cX5_clear 11 = .ok (.iconst 0, 1) := by decide +kernel
theorem dX5_clear_12 : decode cX5_clear 12 = .ok (.putfield 63, 3) := by decide +kernel
theorem dX5_clear_15 : decode cX5_clear 15 = .ok (.aload_n 0, 1) := by decide +kernel
theorem dX5_clear_16 : decode cX5_clear 16 = .ok (.iconst 0, 1) := by decide +kernel
theorem dX5_clear_17 : decode cX5_clear 17 = .ok (.putfield 66, 3) := by decide +kernel
theorem dX5_clear_20 : decode cX5_clear 20 = .ok (.aload_n 0, 1) := by decide +kernel
theorem dX5_clear_21 : decode cX5_clear 21 = .ok (.iconst 0, 1) := by decide +kernel
theorem dX5_clear_22 : decode cX5_clear 22 = .ok (.putfield 69, 3) := by decide +kernel
theorem dX5_clear_25 : decode cX5_clear 25 = .ok (.aload_n 0, 1) := by decide +kernel
theorem dX5_clear_26 : decode cX5_clear 26 = .ok (.iconst 1, 1) := by decide +kernel
theorem dX5_clear_27 : decode cX5_clear 27 = .ok (.putfield 50, 3) := by decide +kernel
theorem dX5_clear_30 : decode cX5_clear 30 = .ok (.aload_n 0, 1) := by decide +kernel
theorem dX5_clear_31 : decode cX5_clear 31 = .ok (.iconst 0, 1) := by decide +kernel
theorem dX5_clear_32 : decode cX5_clear 32 = .ok (.putfield 23, 3) := by decide +kernel
theorem dX5_clear_35 : decode cX5_clear 35 = .ok (.aload_n 0, 1) := by decide +kernel
theorem dX5_clear_36 : decode cX5_clear 36 = .ok (.iconst 0, 1) := by decide +kernel
theorem dX5_clear_37 : decode cX5_clear 37 = .ok (.putfield 27, 3) := by decide +kernel
theorem dX5_clear_40 : decode cX5_clear 40 = .ok (.return_, 1) := by decide +kernel
theorem dX5_finish_0 : decode cX5_finish 0 = .ok (.aload_n 0, 1) := by decide +kernel
theorem dX5_finish_1 : decode cX5_finish 1 = .ok (.getfield 50, 3) := by decide +kernel
theorem dX5_finish_4 : decode cX5_finish 4 = .ok (.ifCond .ne 10, 3) := by decide +kernel
theorem dX5_finish_7 : decode cX5_finish 7 = .ok (.aload_n 0, 1) := by decide +kernel
theorem dX5_finish_8 : decode cX5_finish 8 = .ok (.getfield 63, 3) := by decide +kernel
theorem dX5_finish_11 : decode cX5_finish 11 = .ok (.ifCond .le 7, 3) := by decide +kernel
theorem dX5_finish_14 : decode cX5_finish 14 = .ok (.iconst (-1), 1) := by decide +kernel
theorem dX5_finish_15 : decode cX5_finish 15 = .ok (.iload_n 1, 1) := by decide +kernel
theorem dX5_finish_16 : decode cX5_finish 16 = .ok (.isub, 1) := by decide +kernel
theorem dX5_finish_17 : decode cX5_finish 17 = .ok (.ireturn, 1) := by decide +kernel
theorem dX5_finish_18 : decode cX5_finish 18 = .ok (.aload_n 0, 1) := by decide +kernel
theorem dX5_finish_19 : decode cX5_finish 19 = .ok (.iconst 0, 1) := by decide +kernel
theorem dX5_finish_20 : decode cX5_finish 20 = .ok (.invokevirtual 72, 3) := by decide +kernel
theorem dX5_finish_23 : decode cX5_finish 23 = .ok (.iconst 0, 1) := by decide +kernel
theorem dX5_finish_24 : decode cX5_finish 24 = .ok (.ireturn, 1) := by decide +kernel
theorem dX5_hold_0 : decode cX5_hold 0 = .ok (.aload_n 0, 1) := by decide +kernel
theorem dX5_hold_1 : decode cX5_hold 1 = .ok (.getfield 60, 3) := by decide +kernel
theorem dX5_hold_4 : decode cX5_hold 4 = .ok (.ifCond .lt 32, 3) := by decide +kernel
theorem dX5_hold_7 : decode cX5_hold 7 = .ok (.aload_n 0, 1) := by decide +kernel
theorem dX5_hold_8 : decode cX5_hold 8 = .ok (.getfield 60, 3) := by decide +kernel
theorem dX5_hold_11 : decode cX5_hold 11 = .ok (.bipush 40, 2) := by decide +kernel
theorem dX5_hold_13 : decode cX5_hold 13 = .ok (.if_icmp .ge 23, 3) := by decide +kernel
theorem dX5_hold_16 : decode cX5_hold 16 = .ok (.aload_n 0, 1) := by decide +kernel
theorem dX5_hold_17 : decode cX5_hold 17 = .ok (.getfield 16, 3) := by decide +kernel
theorem dX5_hold_20 : decode cX5_hold 20 = .ok (.aload_n 0, 1) := by decide +kernel
theorem dX5_hold_21 : decode cX5_hold 21 = .ok (.getfield 60, 3) := by decide +kernel
theorem dX5_hold_24 : decode cX5_hold 24 = .ok (.iload_n 1, 1) := by decide +kernel
theorem dX5_hold_25 : decode cX5_hold 25 = .ok (.iastore, 1) := by decide +kernel
theorem dX5_hold_26 : decode cX5_hold 26 = .ok (.aload_n 0, 1) := by decide +kernel
theorem dX5_hold_27 : decode cX5_hold 27 = .ok (.dup, 1) := by decide +kernel
theorem dX5_hold_28 : decode cX5_hold 28 = .ok (.getfield 60, 3) := by decide +kernel
theorem dX5_hold_31 : decode cX5_hold 31 = .ok (.iconst 1, 1) := by decide +kernel
theorem dX5_hold_32 : decode cX5_hold 32 = .ok (.iadd, 1) := by decide +kernel
theorem dX5_hold_33 : decode cX5_hold 33 = .ok (.putfield 60, 3) := by decide +kernel
theorem dX5_hold_36 : decode cX5_hold 36 = .ok (.return_, 1) := by decide +kernel
theorem dX5_rankOf_0 : decode cX5_rankOf 0 = .ok (.iload_n 0, 1) := by decide +kernel
theorem dX5_rankOf_1 : decode cX5_rankOf 1 = .ok (.bipush 8, 2) := by decide +kernel
theorem dX5_rankOf_3 : decode cX5_rankOf 3 = .ok (.if_icmp .ne 5, 3) := by decide +kernel
theorem dX5_rankOf_6 : decode cX5_rankOf 6 = .ok (.iconst 4, 1) := by decide +kernel
theorem dX5_rankOf_7 : decode cX5_rankOf 7 = .ok (.ireturn, 1) := by decide +kernel
theorem dX5_rankOf_8 : decode cX5_rankOf 8 = .ok (.iload_n 0, 1) := by decide +kernel
theorem dX5_rankOf_9 : decode cX5_rankOf 9 = .ok (.bipush 11, 2) := by decide +kernel
theorem dX5_rankOf_11 : decode cX5_rankOf 11 = .ok (.if_icmp .eq 9, 3) := by decide +kernel
theorem dX5_rankOf_14 : decode cX5_rankOf 14 = .ok (.iload_n 0, 1) := by decide +kernel
theorem dX5_rankOf_15 : decode cX5_rankOf 15 = .ok (.bipush 12, 2) := by decide +kernel
theorem dX5_rankOf_17 : decode cX5_rankOf 17 = .ok (.if_icmp .ne 5, 3) := by decide +kernel
theorem dX5_rankOf_20 : decode cX5_rankOf 20 = .ok (.iconst 3, 1) := by decide +kernel
theorem dX5_rankOf_21 : decode cX5_rankOf 21 = .ok (.ireturn, 1) := by decide +kernel
theorem dX5_rankOf_22 : decode cX5_rankOf 22 = .ok (.iload_n 0, 1) := by decide +kernel
theorem dX5_rankOf_23 : decode cX5_rankOf 23 = .ok (.bipush 9, 2) := by decide +kernel
theorem dX5_rankOf_25 : decode cX5_rankOf 25 = .ok (.if_icmp .eq 9, 3) := by decide +kernel
theorem dX5_rankOf_28 : decode cX5_rankOf 28 = .ok (.iload_n 0, 1) := by decide +kernel
theorem dX5_rankOf_29 : decode cX5_rankOf 29 = .ok (.bipush 10, 2) := by decide +kernel
theorem dX5_rankOf_31 : decode cX5_rankOf 31 = .ok (.if_icmp .ne 7, 3) := by decide +kernel
theorem dX5_rankOf_34 : decode cX5_rankOf 34 = .ok (.iconst 2, 1) := by decide +kernel
theorem dX5_rankOf_35 : decode cX5_rankOf 35 = .ok (.goto 4, 3) := by decide +kernel
theorem dX5_rankOf_38 : decode cX5_rankOf 38 = .ok (.iconst 1, 1) := by decide +kernel
theorem dX5_rankOf_39 : decode cX5_rankOf 39 = .ok (.ireturn, 1) := by decide +kernel
theorem dX5_release_0 : decode cX5_release 0 = .ok (.iconst 0, 1) := by decide +kernel
theorem dX5_release_1 : decode cX5_release 1 = .ok (.istore_n 2, 1) := by decide +kernel
theorem dX5_release_2 : decode cX5_release 2 = .ok (.iload_n 2, 1) := by decide +kernel
theorem dX5_release_3 : decode cX5_release 3 = .ok (.bipush 40, 2) := by decide +kernel
theorem dX5_release_5 : decode cX5_release 5 = .ok (.if_icmp .ge 67, 3) := by decide +kernel
theorem dX5_release_8 : decode cX5_release 8 = .ok (.aload_n 0, 1) := by decide +kernel
theorem dX5_release_9 : decode cX5_release 9 = .ok (.getfield 60, 3) := by decide +kernel
theorem dX5_release_12 : decode cX5_release 12 = .ok (.ifCond .le 60, 3) := by decide +kernel
theorem dX5_release_15 : decode cX5_release 15 = .ok (.aload_n 0, 1) := by decide +kernel
theorem dX5_release_16 : decode cX5_release 16 = .ok (.getfield 60, 3) := by decide +kernel
theorem dX5_release_19 : decode cX5_release 19 = .ok (.bipush 40, 2) := by decide +kernel
theorem dX5_release_21 : decode cX5_release 21 = .ok (.if_icmp .gt 51, 3) := by decide +kernel
theorem dX5_release_24 : decode cX5_release 24 = .ok (.aload_n 0, 1) := by decide +kernel
theorem dX5_release_25 : decode cX5_release 25 = .ok (.getfield 16, 3) := by decide +kernel
theorem dX5_release_28 : decode cX5_release 28 = .ok (.aload_n 0, 1) := by decide +kernel
theorem dX5_release_29 : decode cX5_release 29 = .ok (.getfield 60, 3) := by decide +kernel
theorem dX5_release_32 : decode cX5_release 32 = .ok (.iconst 1, 1) := by decide +kernel
theorem dX5_release_33 : decode cX5_release 33 = .ok (.isub, 1) := by decide +kernel
theorem dX5_release_34 : decode cX5_release 34 = .ok (.iaload, 1) := by decide +kernel
theorem dX5_release_35 : decode cX5_release 35 = .ok (.istore_n 3, 1) := by decide +kernel
theorem dX5_release_36 : decode cX5_release 36 = .ok (.iload_n 3, 1) := by decide +kernel
theorem dX5_release_37 : decode cX5_release 37 = .ok (.bipush 16, 2) := by decide +kernel
theorem dX5_release_39 : decode cX5_release 39 = .ok (.if_icmp .eq 11, 3) := by decide +kernel
theorem dX5_release_42 : decode cX5_release 42 = .ok (.iload_n 3, 1) := by decide +kernel
theorem dX5_release_43 : decode cX5_release 43 = .ok (.invokestatic 103, 3) := by decide +kernel
theorem dX5_release_46 : decode cX5_release 46 = .ok (.iload_n 1, 1) := by decide +kernel
theorem dX5_release_47 : decode cX5_release 47 = .ok (.if_icmp .ge 4, 3) := by decide +kernel
theorem dX5_release_50 : decode cX5_release 50 = .ok (.return_, 1) := by decide +kernel
theorem dX5_release_51 : decode cX5_release 51 = .ok (.aload_n 0, 1) := by decide +kernel
theorem dX5_release_52 : decode cX5_release 52 = .ok (.dup, 1) := by decide +kernel
theorem dX5_release_53 : decode cX5_release 53 = .ok (.getfield 60, 3) := by decide +kernel
theorem dX5_release_56 : decode cX5_release 56 = .ok (.iconst 1, 1) := by decide +kernel
theorem dX5_release_57 : decode cX5_release 57 = .ok (.isub, 1) := by decide +kernel
theorem dX5_release_58 : decode cX5_release 58 = .ok (.putfield 60, 3) := by decide +kernel
theorem dX5_release_61 : decode cX5_release 61 = .ok (.aload_n 0, 1) := by decide +kernel
theorem dX5_release_62 : decode cX5_release 62 = .ok (.iload_n 3, 1) := by decide +kernel
theorem dX5_release_63 : decode cX5_release 63 = .ok (.invokevirtual 84, 3) := by decide +kernel
theorem dX5_release_66 : decode cX5_release 66 = .ok (.iinc 2 1, 3) := by decide +kernel
theorem dX5_release_69 : decode cX5_release 69 = .ok (.goto (-67), 3) := by decide +kernel
theorem dX5_release_72 : decode cX5_release 72 = .ok (.return_, 1) := by decide +kernel
theorem dX6_holdBack_0 : decode cX6_holdBack 0 = .ok (.iconst 0, 1) := by decide +kernel
theorem dX6_holdBack_1 : decode cX6_holdBack 1 = .ok (.istore_n 2, 1) := by decide +kernel
theorem dX6_holdBack_2 : decode cX6_holdBack 2 = .ok (.iload_n 2, 1) := by decide +kernel
theorem dX6_holdBack_3 : decode cX6_holdBack 3 = .ok (.aload_n 0, 1) := by decide +kernel
theorem dX6_holdBack_4 : decode cX6_holdBack 4 = .ok (.getfield 30, 3) := by decide +kernel
theorem dX6_holdBack_7 : decode cX6_holdBack 7 = .ok (.if_icmp .ge 40, 3) := by decide +kernel
theorem dX6_holdBack_10 : decode cX6_holdBack 10 = .ok (.iload_n 2, 1) := by decide +kernel
theorem dX6_holdBack_11 : decode cX6_holdBack 11 = .ok (.bipush 6, 2) := by decide +kernel
theorem dX6_holdBack_13 : decode cX6_holdBack 13 = .ok (.if_icmp .ge 34, 3) := by decide +kernel
theorem dX6_holdBack_16 : decode cX6_holdBack 16 = .ok (.aload_n 0, 1) := by decide +kernel
theorem dX6_holdBack_17 : decode cX6_holdBack 17 = .ok (.getfield 24, 3) := by decide +kernel
theorem dX6_holdBack_20 : decode cX6_holdBack 20 = .ok (.iload_n 2, 1) := by decide +kernel
theorem dX6_holdBack_21 : decode cX6_holdBack 21 = .ok (.iload_n 1, 1) := by decide +kernel
theorem dX6_holdBack_22 : decode cX6_holdBack 22 = .ok (.iload_n 2, 1) := by decide +kernel
theorem dX6_holdBack_23 : decode cX6_holdBack 23 = .ok (.ishr, 1) := by decide +kernel
theorem dX6_holdBack_24 : decode cX6_holdBack 24 = .ok (.iconst 1, 1) := by decide +kernel
theorem dX6_holdBack_25 : decode cX6_holdBack 25 = .ok (.iand, 1) := by decide +kernel
theorem dX6_holdBack_26 : decode cX6_holdBack 26 = .ok (.ifCond .eq 8, 3) := by decide +kernel
theorem dX6_holdBack_29 : decode cX6_holdBack 29 = .ok (.ldc 61, 2) := by decide +kernel
theorem dX6_holdBack_31 : decode cX6_holdBack 31 = .ok (.goto 9, 3) := by decide +kernel
theorem dX6_holdBack_34 : decode cX6_holdBack 34 = .ok (.aload_n 0, 1) := by decide +kernel
theorem dX6_holdBack_35 : decode cX6_holdBack 35 = .ok (.getfield 24, 3) := by decide +kernel
theorem dX6_holdBack_38 : decode cX6_holdBack 38 = .ok (.iload_n 2, 1) := by decide +kernel
theorem dX6_holdBack_39 : decode cX6_holdBack 39 = .ok (.iaload, 1) := by decide +kernel
theorem dX6_holdBack_40 : decode cX6_holdBack 40 = .ok (.iastore, 1) := by decide +kernel
theorem dX6_holdBack_41 : decode cX6_holdBack 41 = .ok (.iinc 2 1, 3) := by decide +kernel
theorem dX6_holdBack_44 : decode cX6_holdBack 44 = .ok (.goto (-42), 3) := by decide +kernel
theorem dX6_holdBack_47 : decode cX6_holdBack 47 = .ok (.return_, 1) := by decide +kernel
theorem dX6_setStart_0 : decode cX6_setStart 0 = .ok (.iload_n 1, 1) := by decide +kernel
theorem dX6_setStart_1 : decode cX6_setStart 1 = .ok (.ifCond .lt 16, 3) := by decide +kernel
theorem dX6_setStart_4 : decode cX6_setStart 4 = .ok (.iload_n 1, 1) := by decide +kernel
theorem dX6_setStart_5 : decode cX6_setStart 5 = .ok (.bipush 6, 2) := by decide +kernel
theorem dX6_setStart_7 : decode cX6_setStart 7 = .ok (.if_icmp .ge 10, 3) := by decide +kernel
theorem dX6_setStart_10 : decode cX6_setStart 10 = .ok (.aload_n 0, 1) := by decide +kernel
theorem dX6_setStart_11 : decode cX6_setStart 11 = .ok (.getfield 24, 3) := by decide +kernel
theorem dX6_setStart_14 : decode cX6_setStart 14 = .ok (.iload_n 1, 1) := by decide +kernel
theorem dX6_setStart_15 : decode cX6_setStart 15 = .ok (.iload_n 2, 1) := by decide +kernel
theorem dX6_setStart_16 : decode cX6_setStart 16 = .ok (.iastore, 1) := by decide +kernel
theorem dX6_setStart_17 : decode cX6_setStart 17 = .ok (.return_, 1) := by decide +kernel
theorem dX9_circle_0 : decode cX9_circle 0 = .ok (.aload_n 0, 1) := by decide +kernel
theorem dX9_circle_1 : decode cX9_circle 1 = .ok (.getfield 36, 3) := by decide +kernel
theorem dX9_circle_4 : decode cX9_circle 4 = .ok (.iconst 0, 1) := by decide +kernel
theorem dX9_circle_5 : decode cX9_circle 5 = .ok (.putfield 115, 3) := by decide +kernel
theorem dX9_circle_8 : decode cX9_circle 8 = .ok (.iconst 1, 1) := by decide +kernel
theorem dX9_circle_9 : decode cX9_circle 9 = .ok (.istore_n 3, 1) := by decide +kernel
theorem dX9_circle_10 : decode cX9_circle 10 = .ok (.iload_n 3, 1) := by decide +kernel
theorem dX9_circle_11 : decode cX9_circle 11 = .ok (.iload_n 2, 1) := by decide +kernel
theorem dX9_circle_12 : decode cX9_circle 12 = .ok (.if_icmp .gt 57, 3) := by decide +kernel
theorem dX9_circle_15 : decode cX9_circle 15 = .ok (.aload_n 0, 1) := by decide +kernel
theorem dX9_circle_16 : decode cX9_circle 16 = .ok (.getfield 36, 3) := by decide +kernel
theorem dX9_circle_19 : decode cX9_circle 19 = .ok (.aload_n 0, 1) := by decide +kernel
theorem dX9_circle_20 : decode cX9_circle 20 = .ok (.getfield 29, 3) := by decide +kernel
theorem dX9_circle_23 : decode cX9_circle 23 = .ok (.invokevirtual 105, 3) := by decide +kernel
theorem dX9_circle_26 : decode cX9_circle 26 = .ok (.aload_n 0, 1) := by decide +kernel
theorem dX9_circle_27 : decode cX9_circle 27 = .ok (.getfield 29, 3) := by decide +kernel
theorem dX9_circle_30 : decode cX9_circle 30 = .ok (.iconst 0, 1) := by decide +kernel
theorem dX9_circle_31 : decode cX9_circle 31 = .ok (.invokevirtual 112, 3) := by decide +kernel
theorem dX9_circle_34 : decode cX9_circle 34 = .ok (.ifCond .ne 5, 3) := by decide +kernel
theorem dX9_circle_37 : decode cX9_circle 37 = .ok (.iconst (-1), 1) := by decide +kernel
theorem dX9_circle_38 : decode cX9_circle 38 = .ok (.ireturn, 1) := by decide +kernel
theorem dX9_circle_39 : decode cX9_circle 39 = .ok (.aload_n 0, 1) := by decide +kernel
theorem dX9_circle_40 : decode cX9_circle 40 = .ok (.getfield 36, 3) := by decide +kernel
theorem dX9_circle_43 : decode cX9_circle 43 = .ok (.getfield 115, 3) := by decide +kernel
theorem dX9_circle_46 : decode cX9_circle 46 = .ok (.ifCond .le 17, 3) := by decide +kernel
theorem dX9_circle_49 : decode cX9_circle 49 = .ok (.aload_n 0, 1) := by decide +kernel
theorem dX9_circle_50 : decode cX9_circle 50 = .ok (.getfield 29, 3) := by decide +kernel
theorem dX9_circle_53 : decode cX9_circle 53 = .ok (.iconst 0, 1) := by decide +kernel
theorem dX9_circle_54 : decode cX9_circle 54 = .ok (.invokevirtual 95, 3) := by decide +kernel
theorem dX9_circle_57 : decode cX9_circle 57 = .ok (.iload_n 1, 1) := by decide +kernel
theorem dX9_circle_58 : decode cX9_circle 58 = .ok (.if_icmp .ne 5, 3) := by decide +kernel
theorem dX9_circle_61 : decode cX9_circle 61 = .ok (.iload_n 3, 1) := by decide +kernel
theorem dX9_circle_62 : decode cX9_circle 62 = .ok (.ireturn, 1) := by decide +kernel
theorem dX9_circle_63 : decode cX9_circle 63 = .ok (.iinc 3 1, 3) := by decide +kernel
theorem dX9_circle_66 : decode cX9_circle 66 = .ok (.goto (-56), 3) := by decide +kernel
theorem dX9_circle_69 : decode cX9_circle 69 = .ok (.iconst (-1), 1) := by decide +kernel
theorem dX9_circle_70 : decode cX9_circle 70 = .ok (.ireturn, 1) := by decide +kernel
theorem dX9_mostLeft_0 : decode cX9_mostLeft 0 = .ok (.aload_n 0, 1) := by decide +kernel
theorem dX9_mostLeft_1 : decode cX9_mostLeft 1 = .ok (.invokevirtual 146, 3) := by decide +kernel
theorem dX9_mostLeft_4 : decode cX9_mostLeft 4 = .ok (.iconst 0, 1) := by decide +kernel
theorem dX9_mostLeft_5 : decode cX9_mostLeft 5 = .ok (.istore_n 1, 1) := by decide +kernel
theorem dX9_mostLeft_6 : decode cX9_mostLeft 6 = .ok (.iload_n 1, 1) := by decide +kernel
theorem dX9_mostLeft_7 : decode cX9_mostLeft 7 = .ok (.bipush 12, 2) := by decide +kernel
theorem dX9_mostLeft_9 : decode cX9_mostLeft 9 = .ok (.if_icmp .gt 16, 3) := by decide +kernel
theorem dX9_mostLeft_12 : decode cX9_mostLeft 12 = .ok (.aload_n 0, 1) := by decide +kernel
theorem dX9_mostLeft_13 : decode cX9_mostLeft 13 = .ok (.getfield 19, 3) := by decide +kernel
theorem dX9_mostLeft_16 : decode cX9_mostLeft 16 = .ok (.iload_n 1, 1) := by decide +kernel
theorem dX9_mostLeft_17 : decode cX9_mostLeft 17 = .ok (.iconst 0, 1) := by decide +kernel
theorem dX9_mostLeft_18 : decode cX9_mostLeft 18 = .ok (.iastore, 1) := by decide +kernel
theorem dX9_mostLeft_19 : decode cX9_mostLeft 19 = .ok (.iinc 1 1, 3) := by decide +kernel
theorem dX9_mostLeft_22 : decode cX9_mostLeft 22 = .ok (.goto (-16), 3) := by decide +kernel
theorem dX9_mostLeft_25 : decode cX9_mostLeft 25 = .ok (.iconst 0, 1) := by decide +kernel
theorem dX9_mostLeft_26 : decode cX9_mostLeft 26 = .ok (.istore_n 1, 1) := by decide +kernel
theorem dX9_mostLeft_27 : decode cX9_mostLeft 27 = .ok (.iconst 0, 1) := by decide +kernel
theorem dX9_mostLeft_28 : decode cX9_mostLeft 28 = .ok (.istore_n 2, 1) := by decide +kernel
theorem dX9_mostLeft_29 : decode cX9_mostLeft 29 = .ok (.iconst 0, 1) := by decide +kernel
theorem dX9_mostLeft_30 : decode cX9_mostLeft 30 = .ok (.istore_n 3, 1) := by decide +kernel
theorem dX9_mostLeft_31 : decode cX9_mostLeft 31 = .ok (.iload_n 3, 1) := by decide +kernel
theorem dX9_mostLeft_32 : decode cX9_mostLeft 32 = .ok (.aload_n 0, 1) := by decide +kernel
theorem dX9_mostLeft_33 : decode cX9_mostLeft 33 = .ok (.getfield 32, 3) := by decide +kernel
theorem dX9_mostLeft_36 : decode cX9_mostLeft 36 = .ok (.getfield 118, 3) := by decide +kernel
theorem dX9_mostLeft_39 : decode cX9_mostLeft 39 = .ok (.if_icmp .ge 43, 3) := by decide +kernel
theorem dX9_mostLeft_42 : decode cX9_mostLeft 42 = .ok (.aload_n 0, 1) := by decide +kernel
theorem dX9_mostLeft_43 : decode cX9_mostLeft 43 = .ok (.iload_n 2, 1) := by decide +kernel
theorem dX9_mostLeft_44 : decode cX9_mostLeft 44 = .ok (.invokevirtual 149, 3) := by decide +kernel
theorem dX9_mostLeft_47 : decode cX9_mostLeft 47 = .ok (.ifCond .eq 20, 3) := by decide +kernel
theorem dX9_mostLeft_50 : decode cX9_mostLeft 50 = .ok (.iload_n 1, 1) := by decide +kernel
theorem dX9_mostLeft_51 : decode cX9_mostLeft 51 = .ok (.aload_n 0, 1) := by decide +kernel
theorem dX9_mostLeft_52 : decode cX9_mostLeft 52 = .ok (.aload_n 0, 1) := by decide +kernel
theorem dX9_mostLeft_53 : decode cX9_mostLeft 53 = .ok (.iload_n 2, 1) := by decide +kernel
theorem dX9_mostLeft_54 : decode cX9_mostLeft 54 = .ok (.invokevirtual 152, 3) := by decide +kernel
theorem dX9_mostLeft_57 : decode cX9_mostLeft 57 = .ok (.invokestatic 155, 3) := by decide +kernel
theorem dX9_mostLeft_60 : decode cX9_mostLeft 60 = .ok (.invokevirtual 158, 3) := by decide +kernel
theorem dX9_mostLeft_63 : decode cX9_mostLeft 63 = .ok (.invokestatic 99, 3) := by decide +kernel
theorem dX9_mostLeft_66 : decode cX9_mostLeft 66 = .ok (.istore_n 1, 1) := by decide +kernel
theorem dX9_mostLeft_67 : decode cX9_mostLeft 67 = .ok (.aload_n 0, 1) := by decide +kernel
theorem dX9_mostLeft_68 : decode cX9_mostLeft 68 = .ok (.getfield 32, 3) := by decide +kernel
theorem dX9_mostLeft_71 : decode cX9_mostLeft 71 = .ok (.iload_n 2, 1) := by decide +kernel
theorem dX9_mostLeft_72 : decode cX9_mostLeft 72 = .ok (.invokevirtual 125, 3) := by decide +kernel
theorem dX9_mostLeft_75 : decode cX9_mostLeft 75 = .ok (.istore_n 2, 1) := by decide +kernel
theorem dX9_mostLeft_76 : decode cX9_mostLeft 76 = .ok (.iinc 3 1, 3) := by decide +kernel
theorem dX9_mostLeft_79 : decode cX9_mostLeft 79 = .ok (.goto (-48), 3) := by decide +kernel
theorem dX9_mostLeft_82 : decode cX9_mostLeft 82 = .ok (.iload_n 1, 1) := by decide +kernel
theorem dX9_mostLeft_83 : decode cX9_mostLeft 83 = .ok (.ireturn, 1) := by decide +kernel
theorem dX9_startFrom_0 : decode cX9_startFrom 0 = .ok (.aload_n 0, 1) := by decide +kernel
theorem dX9_startFrom_1 : decode cX9_startFrom 1 = .ok (.getfield 25, 3) := by decide +kernel
theorem dX9_startFrom_4 : decode cX9_startFrom 4 = .ok (.aload_n 1, 1) := by decide +kernel
theorem dX9_startFrom_5 : decode cX9_startFrom 5 = .ok (.invokevirtual 63, 3) := by decide +kernel
theorem dX9_startFrom_8 : decode cX9_startFrom 8 = .ok (.aload_n 0, 1) := by decide +kernel
theorem dX9_startFrom_9 : decode cX9_startFrom 9 = .ok (.iload_n 2, 1) := by decide +kernel
theorem dX9_startFrom_10 : decode cX9_startFrom 10 = .ok (.putfield 57, 3) := by decide +kernel
theorem dX9_startFrom_13 : decode cX9_startFrom 13 = .ok (.aload_n 0, 1) := by decide +kernel
theorem dX9_startFrom_14 : decode cX9_startFrom 14 = .ok (.iload_n 3, 1) := by decide +kernel
theorem dX9_startFrom_15 : decode cX9_startFrom 15 = .ok (.putfield 60, 3) := by decide +kernel
theorem dX9_startFrom_18 : decode cX9_startFrom 18 = .ok (.aload_n 0, 1) := by decide +kernel
theorem dX9_startFrom_19 : decode cX9_startFrom 19 = .ok (.getfield 36, 3) := by decide +kernel
theorem dX9_startFrom_22 : decode cX9_startFrom 22 = .ok (.invokevirtual 67, 3) := by decide +kernel
theorem dX9_startFrom_25 : decode cX9_startFrom 25 = .ok (.ifCond .ne 13, 3) := by decide +kernel
theorem dX9_startFrom_28 : decode cX9_startFrom 28 = .ok (.aload_n 0, 1) := by decide +kernel
theorem dX9_startFrom_29 : decode cX9_startFrom 29 = .ok (.getfield 25, 3) := by decide +kernel
theorem dX9_startFrom_32 : decode cX9_startFrom 32 = .ok (.iload_n 2, 1) := by decide +kernel
theorem dX9_startFrom_33 : decode cX9_startFrom 33 = .ok (.iconst (-1), 1) := by decide +kernel
theorem dX9_startFrom_34 : decode cX9_startFrom 34 = .ok (.ixor, 1) := by decide +kernel
theorem dX9_startFrom_35 : decode cX9_startFrom 35 = .ok (.invokevirtual 73, 3) := by decide +kernel
theorem dX9_startFrom_38 : decode cX9_startFrom 38 = .ok (.return_, 1) := by decide +kernel
theorem dX9_tally_0 : decode cX9_tally 0 = .ok (.iload_n 1, 1) := by decide +kernel
theorem dX9_tally_1 : decode cX9_tally 1 = .ok (.ifCond .lt 13, 3) := by decide +kernel
theorem dX9_tally_4 : decode cX9_tally 4 = .ok (.iload_n 1, 1) := by decide +kernel
theorem dX9_tally_5 : decode cX9_tally 5 = .ok (.bipush 12, 2) := by decide +kernel
theorem dX9_tally_7 : decode cX9_tally 7 = .ok (.if_icmp .ge 7, 3) := by decide +kernel
theorem dX9_tally_10 : decode cX9_tally 10 = .ok (.iload_n 1, 1) := by decide +kernel
theorem dX9_tally_11 : decode cX9_tally 11 = .ok (.goto 5, 3) := by decide +kernel
theorem dX9_tally_14 : decode cX9_tally 14 = .ok (.bipush 12, 2) := by decide +kernel
theorem dX9_tally_16 : decode cX9_tally 16 = .ok (.istore_n 2, 1) := by decide +kernel
theorem dX9_tally_17 : decode cX9_tally 17 = .ok (.aload_n 0, 1) := by decide +kernel
theorem dX9_tally_18 : decode cX9_tally 18 = .ok (.getfield 19, 3) := by decide +kernel
theorem dX9_tally_21 : decode cX9_tally 21 = .ok (.iload_n 2, 1) := by decide +kernel
theorem dX9_tally_22 : decode cX9_tally 22 = .ok (.dup2, 1) := by decide +kernel
theorem dX9_tally_23 : decode cX9_tally 23 = .ok (.iaload, 1) := by decide +kernel
theorem dX9_tally_24 : decode cX9_tally 24 = .ok (.iconst 1, 1) := by decide +kernel
theorem dX9_tally_25 : decode cX9_tally 25 = .ok (.iadd, 1) := by decide +kernel
theorem dX9_tally_26 : decode cX9_tally 26 = .ok (.iastore, 1) := by decide +kernel
theorem dX9_tally_27 : decode cX9_tally 27 = .ok (.aload_n 0, 1) := by decide +kernel
theorem dX9_tally_28 : decode cX9_tally 28 = .ok (.getfield 19, 3) := by decide +kernel
theorem dX9_tally_31 : decode cX9_tally 31 = .ok (.iload_n 2, 1) := by decide +kernel
theorem dX9_tally_32 : decode cX9_tally 32 = .ok (.iaload, 1) := by decide +kernel
theorem dX9_tally_33 : decode cX9_tally 33 = .ok (.ireturn, 1) := by decide +kernel
