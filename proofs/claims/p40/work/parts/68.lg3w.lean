theorem mw_1205 : (Cond.methodLink RL 158 yX11_forget) ∈ gx_G := gx_mem 1205 (by decide +kernel) (by decide +kernel)
theorem mw_1206 : (Cond.instanceMethod yX11_forget) ∈ gx_G := gx_mem 1206 (by decide +kernel) (by decide +kernel)
theorem mw_1207 : (Cond.selects RX11 yX11_forget yX11_forget) ∈ gx_G := gx_mem 1207 (by decide +kernel) (by decide +kernel)
theorem mw_1208 : (Cond.code yX11_forget cX11_forget 2 (some .int)) ∈ gx_G := gx_mem 1208 (by decide +kernel) (by decide +kernel)
theorem mw_1209 : (Cond.methodLink RL 162 yX11_maps) ∈ gx_G := gx_mem 1209 (by decide +kernel) (by decide +kernel)
theorem mw_1210 : (Cond.instanceMethod yX11_maps) ∈ gx_G := gx_mem 1210 (by decide +kernel) (by decide +kernel)
theorem mw_1211 : (Cond.selects RX11 yX11_maps yX11_maps) ∈ gx_G := gx_mem 1211 (by decide +kernel) (by decide +kernel)
theorem mw_1212 : (Cond.code yX11_maps cX11_maps 7 (some .int)) ∈ gx_G := gx_mem 1212 (by decide +kernel) (by decide +kernel)
theorem mw_1249 : (Cond.methodLink RL 166 yX11_next) ∈ gx_G := gx_mem 1249 (by decide +kernel) (by decide +kernel)
theorem mw_1250 : (Cond.instanceMethod yX11_next) ∈ gx_G := gx_mem 1250 (by decide +kernel) (by decide +kernel)
theorem mw_1251 : (Cond.selects RX11 yX11_next yX11_next) ∈ gx_G := gx_mem 1251 (by decide +kernel) (by decide +kernel)
theorem mw_1252 : (Cond.code yX11_next cX11_next 6 (some .int)) ∈ gx_G := gx_mem 1252 (by decide +kernel) (by decide +kernel)
theorem mw_1265 : (Cond.methodLink RL 170 yX11_odds) ∈ gx_G := gx_mem 1265 (by decide +kernel) (by decide +kernel)
theorem mw_1266 : (Cond.instanceMethod yX11_odds) ∈ gx_G := gx_mem 1266 (by decide +kernel) (by decide +kernel)
theorem mw_1267 : (Cond.selects RX11 yX11_odds yX11_odds) ∈ gx_G := gx_mem 1267 (by decide +kernel) (by decide +kernel)
theorem mw_1268 : (Cond.code yX11_odds cX11_odds 10 (some .int)) ∈ gx_G := gx_mem 1268 (by decide +kernel) (by decide +kernel)
theorem mw_1275 : (Cond.methodLink RL 174 yX11_marks) ∈ gx_G := gx_mem 1275 (by decide +kernel) (by decide +kernel)
theorem mw_1276 : (Cond.instanceMethod yX11_marks) ∈ gx_G := gx_mem 1276 (by decide +kernel) (by decide +kernel)
theorem mw_1277 : (Cond.selects RX11 yX11_marks yX11_marks) ∈ gx_G := gx_mem 1277 (by decide +kernel) (by decide +kernel)
theorem mw_1278 : (Cond.code yX11_marks cX11_marks 10 (some .int)) ∈ gx_G := gx_mem 1278 (by decide +kernel) (by decide +kernel)
theorem mw_1279 : (Cond.methodLink RL 178 yX11_order) ∈ gx_G := gx_mem 1279 (by decide +kernel) (by decide +kernel)
theorem mw_1280 : (Cond.instanceMethod yX11_order) ∈ gx_G := gx_mem 1280 (by decide +kernel) (by decide +kernel)
theorem mw_1281 : (Cond.selects RX11 yX11_order yX11_order) ∈ gx_G := gx_mem 1281 (by decide +kernel) (by decide +kernel)
theorem mw_1282 : (Cond.code yX11_order cX11_order 7 (some .int)) ∈ gx_G := gx_mem 1282 (by decide +kernel) (by decide +kernel)
theorem mw_1287 : (Cond.methodLink RL 182 yX11_keep) ∈ gx_G := gx_mem 1287 (by decide +kernel) (by decide +kernel)
theorem mw_1288 : (Cond.instanceMethod yX11_keep) ∈ gx_G := gx_mem 1288 (by decide +kernel) (by decide +kernel)
theorem mw_1289 : (Cond.selects RX11 yX11_keep yX11_keep) ∈ gx_G := gx_mem 1289 (by decide +kernel) (by decide +kernel)
theorem mw_1290 : (Cond.code yX11_keep cX11_keep 2 (some .boolean)) ∈ gx_G := gx_mem 1290 (by decide +kernel) (by decide +kernel)
theorem mw_1291 : (Cond.methodLink RL 186 yX11_again) ∈ gx_G := gx_mem 1291 (by decide +kernel) (by decide +kernel)
theorem mw_1292 : (Cond.instanceMethod yX11_again) ∈ gx_G := gx_mem 1292 (by decide +kernel) (by decide +kernel)
theorem mw_1293 : (Cond.selects RX11 yX11_again yX11_again) ∈ gx_G := gx_mem 1293 (by decide +kernel) (by decide +kernel)
theorem mw_1294 : (Cond.code yX11_again cX11_again 2 (some .boolean)) ∈ gx_G := gx_mem 1294 (by decide +kernel) (by decide +kernel)
theorem mw_1295 : (Cond.methodLink RL 190 yX11_count) ∈ gx_G := gx_mem 1295 (by decide +kernel) (by decide +kernel)
theorem mw_1296 : (Cond.instanceMethod yX11_count) ∈ gx_G := gx_mem 1296 (by decide +kernel) (by decide +kernel)
theorem mw_1297 : (Cond.selects RX11 yX11_count yX11_count) ∈ gx_G := gx_mem 1297 (by decide +kernel) (by decide +kernel)
theorem mw_1298 : (Cond.code yX11_count cX11_count 2 (some .int)) ∈ gx_G := gx_mem 1298 (by decide +kernel) (by decide +kernel)
theorem mw_1396 : (Cond.methodLink RL 194 yL_row) ∈ gx_G := gx_mem 1396 (by decide +kernel) (by decide +kernel)
theorem mw_1397 : (Cond.static yL_row) ∈ gx_G := gx_mem 1397 (by decide +kernel) (by decide +kernel)
theorem mw_1398 : (Cond.codeWith yL_row cL_row 4 (some .int) [(0, 8, 11, 13)]) ∈ gx_G := gx_mem 1398 (by decide +kernel) (by decide +kernel)
theorem mw_2044 : (Cond.methodLink RL 161 yX12_forget) ∈ gx_G := gx_mem 2044 (by decide +kernel) (by decide +kernel)
theorem mw_2045 : (Cond.instanceMethod yX12_forget) ∈ gx_G := gx_mem 2045 (by decide +kernel) (by decide +kernel)
theorem mw_2046 : (Cond.selects RX12 yX12_forget yX12_forget) ∈ gx_G := gx_mem 2046 (by decide +kernel) (by decide +kernel)
theorem mw_2047 : (Cond.code yX12_forget cX12_forget 2 (some .int)) ∈ gx_G := gx_mem 2047 (by decide +kernel) (by decide +kernel)
theorem mw_2048 : (Cond.methodLink RL 165 yX12_maps) ∈ gx_G := gx_mem 2048 (by decide +kernel) (by decide +kernel)
theorem mw_2049 : (Cond.instanceMethod yX12_maps) ∈ gx_G := gx_mem 2049 (by decide +kernel) (by decide +kernel)
theorem mw_2050 : (Cond.selects RX12 yX12_maps yX12_maps) ∈ gx_G := gx_mem 2050 (by decide +kernel) (by decide +kernel)
theorem mw_2051 : (Cond.code yX12_maps cX12_maps 7 (some .int)) ∈ gx_G := gx_mem 2051 (by decide +kernel) (by decide +kernel)
theorem mw_2060 : (Cond.methodLink RL 169 yX12_next) ∈ gx_G := gx_mem 2060 (by decide +kernel) (by decide +kernel)
theorem mw_2061 : (Cond.instanceMethod yX12_next) ∈ gx_G := gx_mem 2061 (by decide +kernel) (by decide +kernel)
theorem mw_2062 : (Cond.selects RX12 yX12_next yX12_next) ∈ gx_G := gx_mem 2062 (by decide +kernel) (by decide +kernel)
theorem mw_2063 : (Cond.code yX12_next cX12_next 8 (some .int)) ∈ gx_G := gx_mem 2063 (by decide +kernel) (by decide +kernel)
theorem mw_2064 : (Cond.methodLink RL 173 yX12_odds) ∈ gx_G := gx_mem 2064 (by decide +kernel) (by decide +kernel)
theorem mw_2065 : (Cond.instanceMethod yX12_odds) ∈ gx_G := gx_mem 2065 (by decide +kernel) (by decide +kernel)
theorem mw_2066 : (Cond.selects RX12 yX12_odds yX12_odds) ∈ gx_G := gx_mem 2066 (by decide +kernel) (by decide +kernel)
theorem mw_2067 : (Cond.code yX12_odds cX12_odds 13 (some .int)) ∈ gx_G := gx_mem 2067 (by decide +kernel) (by decide +kernel)
theorem mw_2077 : (Cond.methodLink RL 177 yX12_marks) ∈ gx_G := gx_mem 2077 (by decide +kernel) (by decide +kernel)
theorem mw_2078 : (Cond.instanceMethod yX12_marks) ∈ gx_G := gx_mem 2078 (by decide +kernel) (by decide +kernel)
theorem mw_2079 : (Cond.selects RX12 yX12_marks yX12_marks) ∈ gx_G := gx_mem 2079 (by decide +kernel) (by decide +kernel)
theorem mw_2080 : (Cond.code yX12_marks cX12_marks 10 (some .int)) ∈ gx_G := gx_mem 2080 (by decide +kernel) (by decide +kernel)
theorem mw_2082 : (Cond.methodLink RL 181 yX12_order) ∈ gx_G := gx_mem 2082 (by decide +kernel) (by decide +kernel)
theorem mw_2083 : (Cond.instanceMethod yX12_order) ∈ gx_G := gx_mem 2083 (by decide +kernel) (by decide +kernel)
theorem mw_2084 : (Cond.selects RX12 yX12_order yX12_order) ∈ gx_G := gx_mem 2084 (by decide +kernel) (by decide +kernel)
theorem mw_2085 : (Cond.code yX12_order cX12_order 10 (some .int)) ∈ gx_G := gx_mem 2085 (by decide +kernel) (by decide +kernel)
theorem mw_2086 : (Cond.methodLink RL 185 yX12_keep) ∈ gx_G := gx_mem 2086 (by decide +kernel) (by decide +kernel)
theorem mw_2087 : (Cond.instanceMethod yX12_keep) ∈ gx_G := gx_mem 2087 (by decide +kernel) (by decide +kernel)
theorem mw_2088 : (Cond.selects RX12 yX12_keep yX12_keep) ∈ gx_G := gx_mem 2088 (by decide +kernel) (by decide +kernel)
theorem mw_2089 : (Cond.code yX12_keep cX12_keep 3 (some .boolean)) ∈ gx_G := gx_mem 2089 (by decide +kernel) (by decide +kernel)
theorem mw_2091 : (Cond.methodLink RL 189 yX12_again) ∈ gx_G := gx_mem 2091 (by decide +kernel) (by decide +kernel)
theorem mw_2092 : (Cond.instanceMethod yX12_again) ∈ gx_G := gx_mem 2092 (by decide +kernel) (by decide +kernel)
theorem mw_2093 : (Cond.selects RX12 yX12_again yX12_again) ∈ gx_G := gx_mem 2093 (by decide +kernel) (by decide +kernel)
theorem mw_2094 : (Cond.code yX12_again cX12_again 3 (some .boolean)) ∈ gx_G := gx_mem 2094 (by decide +kernel) (by decide +kernel)
theorem mw_2095 : (Cond.methodLink RL 193 yX12_count) ∈ gx_G := gx_mem 2095 (by decide +kernel) (by decide +kernel)
theorem mw_2096 : (Cond.instanceMethod yX12_count) ∈ gx_G := gx_mem 2096 (by decide +kernel) (by decide +kernel)
theorem mw_2097 : (Cond.selects RX12 yX12_count yX12_count) ∈ gx_G := gx_mem 2097 (by decide +kernel) (by decide +kernel)
theorem mw_2098 : (Cond.code yX12_count cX12_count 2 (some .int)) ∈ gx_G := gx_mem 2098 (by decide +kernel) (by decide +kernel)
theorem mw_2099 : (Cond.methodLink RL 197 yX12_row) ∈ gx_G := gx_mem 2099 (by decide +kernel) (by decide +kernel)
theorem mw_2100 : (Cond.instanceMethod yX12_row) ∈ gx_G := gx_mem 2100 (by decide +kernel) (by decide +kernel)
theorem mw_2101 : (Cond.selects RX12 yX12_row yX12_row) ∈ gx_G := gx_mem 2101 (by decide +kernel) (by decide +kernel)
theorem mw_2102 : (Cond.code yX12_row cX12_row 2 (some .long)) ∈ gx_G := gx_mem 2102 (by decide +kernel) (by decide +kernel)
theorem cw_L_158 : gx_Wv RL 158 yX11_forget cX11_forget 2 (some .int) 0 := ⟨⟨mw_1205, mw_1206, mw_1207, mw_89, mw_1208⟩, by decide +kernel⟩
theorem cw_L_161 : gx_Wv RL 161 yX12_forget cX12_forget 2 (some .int) 0 := ⟨⟨mw_2044, mw_2045, mw_2046, mw_101, mw_2047⟩, by decide +kernel⟩
theorem cw_L_162 : gx_Wv RL 162 yX11_maps cX11_maps 7 (some .int) 0 := ⟨⟨mw_1209, mw_1210, mw_1211, mw_89, mw_1212⟩, by decide +kernel⟩
theorem cw_L_165 : gx_Wv RL 165 yX12_maps cX12_maps 7 (some .int) 0 := ⟨⟨mw_2048, mw_2049, mw_2050, mw_101, mw_2051⟩, by decide +kernel⟩
theorem cw_L_166 : gx_Wv RL 166 yX11_next cX11_next 6 (some .int) 1 := ⟨⟨mw_1249, mw_1250, mw_1251, mw_89, mw_1252⟩, by decide +kernel⟩
theorem cw_L_169 : gx_Wv RL 169 yX12_next cX12_next 8 (some .int) 1 := ⟨⟨mw_2060, mw_2061, mw_2062, mw_101, mw_2063⟩, by decide +kernel⟩
theorem cw_L_170 : gx_Wv RL 170 yX11_odds cX11_odds 10 (some .int) 3 := ⟨⟨mw_1265, mw_1266, mw_1267, mw_89, mw_1268⟩, by decide +kernel⟩
theorem cw_L_173 : gx_Wv RL 173 yX12_odds cX12_odds 13 (some .int) 3 := ⟨⟨mw_2064, mw_2065, mw_2066, mw_101, mw_2067⟩, by decide +kernel⟩
theorem cw_L_174 : gx_Wv RL 174 yX11_marks cX11_marks 10 (some .int) 3 := ⟨⟨mw_1275, mw_1276, mw_1277, mw_89, mw_1278⟩, by decide +kernel⟩
theorem cw_L_177 : gx_Wv RL 177 yX12_marks cX12_marks 10 (some .int) 3 := ⟨⟨mw_2077, mw_2078, mw_2079, mw_101, mw_2080⟩, by decide +kernel⟩
theorem cw_L_178 : gx_Wv RL 178 yX11_order cX11_order 7 (some .int) 2 := ⟨⟨mw_1279, mw_1280, mw_1281, mw_89, mw_1282⟩, by decide +kernel⟩
theorem cw_L_181 : gx_Wv RL 181 yX12_order cX12_order 10 (some .int) 2 := ⟨⟨mw_2082, mw_2083, mw_2084, mw_101, mw_2085⟩, by decide +kernel⟩
theorem cw_L_182 : gx_Wv RL 182 yX11_keep cX11_keep 2 (some .boolean) 1 := ⟨⟨mw_1287, mw_1288, mw_1289, mw_89, mw_1290⟩, by decide +kernel⟩
theorem cw_L_185 : gx_Wv RL 185 yX12_keep cX12_keep 3 (some .boolean) 1 := ⟨⟨mw_2086, mw_2087, mw_2088, mw_101, mw_2089⟩, by decide +kernel⟩
theorem cw_L_186 : gx_Wv RL 186 yX11_again cX11_again 2 (some .boolean) 1 := ⟨⟨mw_1291, mw_1292, mw_1293, mw_89, mw_1294⟩, by decide +kernel⟩
theorem cw_L_189 : gx_Wv RL 189 yX12_again cX12_again 3 (some .boolean) 1 := ⟨⟨mw_2091, mw_2092, mw_2093, mw_101, mw_2094⟩, by decide +kernel⟩
theorem cw_L_190 : gx_Wv RL 190 yX11_count cX11_count 2 (some .int) 1 := ⟨⟨mw_1295, mw_1296, mw_1297, mw_89, mw_1298⟩, by decide +kernel⟩
theorem cw_L_193 : gx_Wv RL 193 yX12_count cX12_count 2 (some .int) 1 := ⟨⟨mw_2095, mw_2096, mw_2097, mw_101, mw_2098⟩, by decide +kernel⟩
theorem cw_L_194 : gx_Wsw RL 194 yL_row cL_row 4 [(0, 8, 11, 13)] 3 := ⟨⟨mw_1396, mw_1397, mw_88, mw_1398⟩, by decide +kernel⟩
theorem cw_L_197 : gx_Wv RL 197 yX12_row cX12_row 2 (some .long) 1 := ⟨⟨mw_2099, mw_2100, mw_2101, mw_101, mw_2102⟩, by decide +kernel⟩
theorem dL_law_1373 : decode cL_law 1373 = .ok (.aload_n 1, 1) := by decide +kernel
theorem dL_law_1374 : decode cL_law 1374 = .ok (.invokevirtual 158, 3) := by decide +kernel
theorem dL_law_1377 : decode cL_law 1377 = .ok (.pop, 1) := by decide +kernel
theorem dL_law_1378 : decode cL_law 1378 = .ok (.aload_n 2, 1) := by decide +kernel
theorem dL_law_1379 : decode cL_law 1379 = .ok (.invokevirtual 161, 3) := by decide +kernel
theorem dL_law_1382 : decode cL_law 1382 = .ok (.pop, 1) := by decide +kernel
theorem dL_law_1383 : decode cL_law 1383 = .ok (.goto 279, 3) := by decide +kernel
theorem dL_law_1386 : decode cL_law 1386 = .ok (.aload_n 1, 1) := by decide +kernel
theorem dL_law_1387 : decode cL_law 1387 = .ok (.invokevirtual 162, 3) := by decide +kernel
theorem dL_law_1390 : decode cL_law 1390 = .ok (.pop, 1) := by decide +kernel
theorem dL_law_1391 : decode cL_law 1391 = .ok (.aload_n 2, 1) := by decide +kernel
theorem dL_law_1392 : decode cL_law 1392 = .ok (.invokevirtual 165, 3) := by decide +kernel
theorem dL_law_1395 : decode cL_law 1395 = .ok (.pop, 1) := by decide +kernel
theorem dL_law_1396 : decode cL_law 1396 = .ok (.goto 266, 3) := by decide +kernel
theorem dL_law_1399 : decode cL_law 1399 = .ok (.aload_n 1, 1) := by decide +kernel
theorem dL_law_1400 : decode cL_law 1400 = .ok (.aload_n 0, 1) := by decide +kernel
theorem dL_law_1401 : decode cL_law 1401 = .ok (.iload 4, 2) := by decide +kernel
theorem dL_law_1403 : decode cL_law 1403 = .ok (.iconst 1, 1) := by decide +kernel
theorem dL_law_1404 : decode cL_law 1404 = .ok (.iadd, 1) := by decide +kernel
theorem dL_law_1405 : decode cL_law 1405 = .ok (.iaload, 1) := by decide +kernel
theorem dL_law_1406 : decode cL_law 1406 = .ok (.invokevirtual 166, 3) := by decide +kernel
theorem dL_law_1409 : decode cL_law 1409 = .ok (.pop, 1) := by decide +kernel
theorem dL_law_1410 : decode cL_law 1410 = .ok (.aload_n 2, 1) := by decide +kernel
theorem dL_law_1411 : decode cL_law 1411 = .ok (.aload_n 0, 1) := by decide +kernel
theorem dL_law_1412 : decode cL_law 1412 = .ok (.iload 4, 2) := by decide +kernel
theorem dL_law_1414 : decode cL_law 1414 = .ok (.iconst 1, 1) := by decide +kernel
theorem dL_law_1415 : decode cL_law 1415 = .ok (.iadd, 1) := by decide +kernel
theorem dL_law_1416 : decode cL_law 1416 = .ok (.iaload, 1) := by decide +kernel
theorem dL_law_1417 : decode cL_law 1417 = .ok (.invokevirtual 169, 3) := by decide +kernel
theorem dL_law_1420 : decode cL_law 1420 = .ok (.pop, 1) := by decide +kernel
theorem dL_law_1421 : decode cL_law 1421 = .ok (.goto 241, 3) := by decide +kernel
theorem dL_law_1424 : decode cL_law 1424 = .ok (.aload_n 1, 1) := by decide +kernel
theorem dL_law_1425 : decode cL_law 1425 = .ok (.aload_n 0, 1) := by decide +kernel
theorem dL_law_1426 : decode cL_law 1426 = .ok (.iload 4, 2) := by decide +kernel
theorem dL_law_1428 : decode cL_law 1428 = .ok (.iconst 1, 1) := by decide +kernel
theorem dL_law_1429 : decode cL_law 1429 = .ok (.iadd, 1) := by decide +kernel
theorem dL_law_1430 : decode cL_law 1430 = .ok (.iaload, 1) := by decide +kernel
theorem dL_law_1431 : decode cL_law 1431 = .ok (.aload_n 0, 1) := by decide +kernel
theorem dL_law_1432 : decode cL_law 1432 = .ok (.iload 4, 2) := by decide +kernel
theorem dL_law_1434 : decode cL_law 1434 = .ok (.iconst 2, 1) := by decide +kernel
theorem dL_law_1435 : decode cL_law 1435 = .ok (.iadd, 1) := by decide +kernel
theorem dL_law_1436 : decode cL_law 1436 = .ok (.iaload, 1) := by decide +kernel
theorem dL_law_1437 : decode cL_law 1437 = .ok (.aload_n 0, 1) := by decide +kernel
theorem dL_law_1438 : decode cL_law 1438 = .ok (.iload 4, 2) := by decide +kernel
theorem dL_law_1440 : decode cL_law 1440 = .ok (.iconst 3, 1) := by decide +kernel
theorem dL_law_1441 : decode cL_law 1441 = .ok (.iadd, 1) := by decide +kernel
theorem dL_law_1442 : decode cL_law 1442 = .ok (.iaload, 1) := by decide +kernel
theorem dL_law_1443 : decode cL_law 1443 = .ok (.invokevirtual 170, 3) := by decide +kernel
theorem dL_law_1446 : decode cL_law 1446 = .ok (.pop, 1) := by decide +kernel
theorem dL_law_1447 : decode cL_law 1447 = .ok (.aload_n 2, 1) := by decide +kernel
theorem dL_law_1448 : decode cL_law 1448 = .ok (.aload_n 0, 1) := by decide +kernel
theorem dL_law_1449 : decode cL_law 1449 = .ok (.iload 4, 2) := by decide +kernel
theorem dL_law_1451 : decode cL_law 1451 = .ok (.iconst 1, 1) := by decide +kernel
theorem dL_law_1452 : decode cL_law 1452 = .ok (.iadd, 1) := by decide +kernel
theorem dL_law_1453 : decode cL_law 1453 = .ok (.iaload, 1) := by decide +kernel
theorem dL_law_1454 : decode cL_law 1454 = .ok (.aload_n 0, 1) := by decide +kernel
theorem dL_law_1455 : decode cL_law 1455 = .ok (.iload 4, 2) := by decide +kernel
theorem dL_law_1457 : decode cL_law 1457 = .ok (.iconst 2, 1) := by decide +kernel
theorem dL_law_1458 : decode cL_law 1458 = .ok (.iadd, 1) := by decide +kernel
theorem dL_law_1459 : decode cL_law 1459 = .ok (.iaload, 1) := by decide +kernel
theorem dL_law_1460 : decode cL_law 1460 = .ok (.aload_n 0, 1) := by decide +kernel
theorem dL_law_1461 : decode cL_law 1461 = .ok (.iload 4, 2) := by decide +kernel
theorem dL_law_1463 : decode cL_law 1463 = .ok (.iconst 3, 1) := by decide +kernel
theorem dL_law_1464 : decode cL_law 1464 = .ok (.iadd, 1) := by decide +kernel
theorem dL_law_1465 : decode cL_law 1465 = .ok (.iaload, 1) := by decide +kernel
theorem dL_law_1466 : decode cL_law 1466 = .ok (.invokevirtual 173, 3) := by decide +kernel
theorem dL_law_1469 : decode cL_law 1469 = .ok (.pop, 1) := by decide +kernel
theorem dL_law_1470 : decode cL_law 1470 = .ok (.goto 192, 3) := by decide +kernel
theorem dL_law_1473 : decode cL_law 1473 = .ok (.aload_n 1, 1) := by decide +kernel
theorem dL_law_1474 : decode cL_law 1474 = .ok (.aload_n 0, 1) := by decide +kernel
theorem dL_law_1475 : decode cL_law 1475 = .ok (.iload 4, 2) := by decide +kernel
theorem dL_law_1477 : decode cL_law 1477 = .ok (.iconst 1, 1) := by decide +kernel
theorem dL_law_1478 : decode cL_law 1478 = .ok (.iadd, 1) := by decide +kernel
theorem dL_law_1479 : decode cL_law 1479 = .ok (.iaload, 1) := by decide +kernel
theorem dL_law_1480 : decode cL_law 1480 = .ok (.aload_n 0, 1) := by decide +kernel
theorem dL_law_1481 : decode cL_law 1481 = .ok (.iload 4, 2) := by decide +kernel
theorem dL_law_1483 : decode cL_law 1483 = .ok (.iconst 2, 1) := by decide +kernel
theorem dL_law_1484 : decode cL_law 1484 = .ok (.iadd, 1) := by decide +kernel
theorem dL_law_1485 : decode cL_law 1485 = .ok (.iaload, 1) := by decide +kernel
theorem dL_law_1486 : decode cL_law 1486 = .ok (.aload_n 0, 1) := by decide +kernel
theorem dL_law_1487 : decode cL_law 1487 = .ok (.iload 4, 2) := by decide +kernel
theorem dL_law_1489 : decode cL_law 1489 = .ok (.iconst 3, 1) := by decide +kernel
theorem dL_law_1490 : decode cL_law 1490 = .ok (.iadd, 1) := by decide +kernel
theorem dL_law_1491 : decode cL_law 1491 = .ok (.iaload, 1) := by decide +kernel
theorem dL_law_1492 : decode cL_law 1492 = .ok (.invokevirtual 174, 3) := by decide +kernel
theorem dL_law_1495 : decode cL_law 1495 = .ok (.pop, 1) := by decide +kernel
theorem dL_law_1496 : decode cL_law 1496 = .ok (.aload_n 2, 1) := by decide +kernel
theorem dL_law_1497 : decode cL_law 1497 = .ok (.aload_n 0, 1) := by decide +kernel
theorem dL_law_1498 : decode cL_law 1498 = .ok (.iload 4, 2) := by decide +kernel
theorem dL_law_1500 : decode cL_law 1500 = .ok (.iconst 1, 1) := by decide +kernel
theorem dL_law_1501 : decode cL_law 1501 = .ok (.iadd, 1) := by decide +kernel
theorem dL_law_1502 : decode cL_law 1502 = .ok (.iaload, 1) := by decide +kernel
theorem dL_law_1503 : decode cL_law 1503 = .ok (.aload_n 0, 1) := by decide +kernel
theorem dL_law_1504 : decode cL_law 1504 = .ok (.iload 4, 2) := by decide +kernel
theorem dL_law_1506 : decode cL_law 1506 = .ok (.iconst 2, 1) := by decide +kernel
theorem dL_law_1507 : decode cL_law 1507 = .ok (.iadd, 1) := by decide +kernel
theorem dL_law_1508 : decode cL_law 1508 = .ok (.iaload, 1) := by decide +kernel
theorem dL_law_1509 : decode cL_law 1509 = .ok (.aload_n 0, 1) := by decide +kernel
theorem dL_law_1510 : decode cL_law 1510 = .ok (.iload 4, 2) := by decide +kernel
theorem dL_law_1512 : decode cL_law 1512 = .ok (.iconst 3, 1) := by decide +kernel
theorem dL_law_1513 : decode cL_law 1513 = .ok (.iadd, 1) := by decide +kernel
theorem dL_law_1514 : decode cL_law 1514 = .ok (.iaload, 1) := by decide +kernel
theorem dL_law_1515 : decode cL_law 1515 = .ok (.invokevirtual 177, 3) := by decide +kernel
theorem dL_law_1518 : decode cL_law 1518 = .ok (.pop, 1) := by decide +kernel
theorem dL_law_1519 : decode cL_law 1519 = .ok (.goto 143, 3) := by decide +kernel
theorem dL_law_1522 : decode cL_law 1522 = .ok (.aload_n 1, 1) := by decide +kernel
theorem dL_law_1523 : decode cL_law 1523 = .ok (.aload_n 0, 1) := by decide +kernel
theorem dL_law_1524 : decode cL_law 1524 = .ok (.iload 4, 2) := by decide +kernel
theorem dL_law_1526 : decode cL_law 1526 = .ok (.iconst 1, 1) := by decide +kernel
theorem dL_law_1527 : decode cL_law 1527 = .ok (.iadd, 1) := by decide +kernel
theorem dL_law_1528 : decode cL_law 1528 = .ok (.iaload, 1) := by decide +kernel
theorem dL_law_1529 : decode cL_law 1529 = .ok (.aload_n 0, 1) := by decide +kernel
theorem dL_law_1530 : decode cL_law 1530 = .ok (.iload 4, 2) := by decide +kernel
theorem dL_law_1532 : decode cL_law 1532 = .ok (.iconst 2, 1) := by decide +kernel
theorem dL_law_1533 : decode cL_law 1533 = .ok (.iadd, 1) := by decide +kernel
theorem dL_law_1534 : decode cL_law 1534 = .ok (.iaload, 1) := by decide +kernel
theorem dL_law_1535 : decode cL_law 1535 = .ok (.invokevirtual 178, 3) := by decide +kernel
theorem dL_law_1538 : decode cL_law 1538 = .ok (.pop, 1) := by decide +kernel
theorem dL_law_1539 : decode cL_law 1539 = .ok (.aload_n 2, 1) := by decide +kernel
theorem dL_law_1540 : decode cL_law 1540 = .ok (.aload_n 0, 1) := by decide +kernel
theorem dL_law_1541 : decode cL_law 1541 = .ok (.iload 4, 2) := by decide +kernel
theorem dL_law_1543 : decode cL_law 1543 = .ok (.iconst 1, 1) := by decide +kernel
theorem dL_law_1544 : decode cL_law 1544 = .ok (.iadd, 1) := by decide +kernel
theorem dL_law_1545 : decode cL_law 1545 = .ok (.iaload, 1) := by decide +kernel
theorem dL_law_1546 : decode cL_law 1546 = .ok (.aload_n 0, 1) := by decide +kernel
theorem dL_law_1547 : decode cL_law 1547 = .ok (.iload 4, 2) := by decide +kernel
theorem dL_law_1549 : decode cL_law 1549 = .ok (.iconst 2, 1) := by decide +kernel
theorem dL_law_1550 : decode cL_law 1550 = .ok (.iadd, 1) := by decide +kernel
theorem dL_law_1551 : decode cL_law 1551 = .ok (.iaload, 1) := by decide +kernel
theorem dL_law_1552 : decode cL_law 1552 = .ok (.invokevirtual 181, 3) := by decide +kernel
theorem dL_law_1555 : decode cL_law 1555 = .ok (.pop, 1) := by decide +kernel
theorem dL_law_1556 : decode cL_law 1556 = .ok (.goto 106, 3) := by decide +kernel
theorem dL_law_1559 : decode cL_law 1559 = .ok (.aload_n 1, 1) := by decide +kernel
theorem dL_law_1560 : decode cL_law 1560 = .ok (.aload_n 0, 1) := by decide +kernel
theorem dL_law_1561 : decode cL_law 1561 = .ok (.iload 4, 2) := by decide +kernel
theorem dL_law_1563 : decode cL_law 1563 = .ok (.iconst 1, 1) := by decide +kernel
theorem dL_law_1564 : decode cL_law 1564 = .ok (.iadd, 1) := by decide +kernel
theorem dL_law_1565 : decode cL_law 1565 = .ok (.iaload, 1) := by decide +kernel
theorem dL_law_1566 : decode cL_law 1566 = .ok (.invokevirtual 182, 3) := by decide +kernel
theorem dL_law_1569 : decode cL_law 1569 = .ok (.pop, 1) := by decide +kernel
theorem dL_law_1570 : decode cL_law 1570 = .ok (.aload_n 2, 1) := by decide +kernel
theorem dL_law_1571 : decode cL_law 1571 = .ok (.aload_n 0, 1) := by decide +kernel
theorem dL_law_1572 : decode cL_law 1572 = .ok (.iload 4, 2) := by decide +kernel
theorem dL_law_1574 : decode cL_law 1574 = .ok (.iconst 1, 1) := by decide +kernel
theorem dL_law_1575 : decode cL_law 1575 = .ok (.iadd, 1) := by decide +kernel
theorem dL_law_1576 : decode cL_law 1576 = .ok (.iaload, 1) := by decide +kernel
theorem dL_law_1577 : decode cL_law 1577 = .ok (.invokevirtual 185, 3) := by decide +kernel
theorem dL_law_1580 : decode cL_law 1580 = .ok (.pop, 1) := by decide +kernel
theorem dL_law_1581 : decode cL_law 1581 = .ok (.goto 81, 3) := by decide +kernel
theorem dL_law_1584 : decode cL_law 1584 = .ok (.aload_n 1, 1) := by decide +kernel
theorem dL_law_1585 : decode cL_law 1585 = .ok (.aload_n 0, 1) := by decide +kernel
theorem dL_law_1586 : decode cL_law 1586 = .ok (.iload 4, 2) := by decide +kernel
theorem dL_law_1588 : decode cL_law 1588 = .ok (.iconst 1, 1) := by decide +kernel
theorem dL_law_1589 : decode cL_law 1589 = .ok (.iadd, 1) := by decide +kernel
theorem dL_law_1590 : decode cL_law 1590 = .ok (.iaload, 1) := by decide +kernel
theorem dL_law_1591 : decode cL_law 1591 = .ok (.invokevirtual 186, 3) := by decide +kernel
theorem dL_law_1594 : decode cL_law 1594 = .ok (.aload_n 2, 1) := by decide +kernel
theorem dL_law_1595 : decode cL_law 1595 = .ok (.aload_n 0, 1) := by decide +kernel
theorem dL_law_1596 : decode cL_law 1596 = .ok (.iload 4, 2) := by decide +kernel
theorem dL_law_1598 : decode cL_law 1598 = .ok (.iconst 1, 1) := by decide +kernel
theorem dL_law_1599 : decode cL_law 1599 = .ok (.iadd, 1) := by decide +kernel
theorem dL_law_1600 : decode cL_law 1600 = .ok (.iaload, 1) := by decide +kernel
theorem dL_law_1601 : decode cL_law 1601 = .ok (.invokevirtual 189, 3) := by decide +kernel
theorem dL_law_1604 : decode cL_law 1604 = .ok (.if_icmp .eq 58, 3) := by decide +kernel
theorem dL_law_1609 : decode cL_law 1609 = .ok (.aload_n 1, 1) := by decide +kernel
theorem dL_law_1610 : decode cL_law 1610 = .ok (.aload_n 0, 1) := by decide +kernel
theorem dL_law_1611 : decode cL_law 1611 = .ok (.iload 4, 2) := by decide +kernel
theorem dL_law_1613 : decode cL_law 1613 = .ok (.iconst 1, 1) := by decide +kernel
theorem dL_law_1614 : decode cL_law 1614 = .ok (.iadd, 1) := by decide +kernel
theorem dL_law_1615 : decode cL_law 1615 = .ok (.iaload, 1) := by decide +kernel
theorem dL_law_1616 : decode cL_law 1616 = .ok (.invokevirtual 190, 3) := by decide +kernel
theorem dL_law_1619 : decode cL_law 1619 = .ok (.pop, 1) := by decide +kernel
theorem dL_law_1620 : decode cL_law 1620 = .ok (.aload_n 2, 1) := by decide +kernel
theorem dL_law_1621 : decode cL_law 1621 = .ok (.aload_n 0, 1) := by decide +kernel
theorem dL_law_1622 : decode cL_law 1622 = .ok (.iload 4, 2) := by decide +kernel
theorem dL_law_1624 : decode cL_law 1624 = .ok (.iconst 1, 1) := by decide +kernel
theorem dL_law_1625 : decode cL_law 1625 = .ok (.iadd, 1) := by decide +kernel
theorem dL_law_1626 : decode cL_law 1626 = .ok (.iaload, 1) := by decide +kernel
theorem dL_law_1627 : decode cL_law 1627 = .ok (.invokevirtual 193, 3) := by decide +kernel
theorem dL_law_1630 : decode cL_law 1630 = .ok (.pop, 1) := by decide +kernel
theorem dL_law_1631 : decode cL_law 1631 = .ok (.goto 31, 3) := by decide +kernel
theorem dL_law_1634 : decode cL_law 1634 = .ok (.aload_n 1, 1) := by decide +kernel
theorem dL_law_1635 : decode cL_law 1635 = .ok (.aload_n 0, 1) := by decide +kernel
theorem dL_law_1636 : decode cL_law 1636 = .ok (.iload 4, 2) := by decide +kernel
theorem dL_law_1638 : decode cL_law 1638 = .ok (.iconst 1, 1) := by decide +kernel
theorem dL_law_1639 : decode cL_law 1639 = .ok (.iadd, 1) := by decide +kernel
theorem dL_law_1640 : decode cL_law 1640 = .ok (.iaload, 1) := by decide +kernel
theorem dL_law_1641 : decode cL_law 1641 = .ok (.aload_n 3, 1) := by decide +kernel
theorem dL_law_1642 : decode cL_law 1642 = .ok (.invokestatic 194, 3) := by decide +kernel
theorem dL_law_1645 : decode cL_law 1645 = .ok (.istore 5, 2) := by decide +kernel
theorem dL_law_1647 : decode cL_law 1647 = .ok (.aload_n 2, 1) := by decide +kernel
theorem dL_law_1648 : decode cL_law 1648 = .ok (.aload_n 0, 1) := by decide +kernel
theorem dL_law_1649 : decode cL_law 1649 = .ok (.iload 4, 2) := by decide +kernel
theorem dL_law_1651 : decode cL_law 1651 = .ok (.iconst 1, 1) := by decide +kernel
theorem dL_law_1652 : decode cL_law 1652 = .ok (.iadd, 1) := by decide +kernel
theorem dL_law_1653 : decode cL_law 1653 = .ok (.iaload, 1) := by decide +kernel
theorem dL_law_1654 : decode cL_law 1654 = .ok (.invokevirtual 197, 3) := by decide +kernel
theorem dL_law_1657 : decode cL_law 1657 = .ok (.lstore 6, 2) := by decide +kernel
theorem dL_law_1659 : decode cL_law 1659 = .ok (.goto 3, 3) := by decide +kernel
