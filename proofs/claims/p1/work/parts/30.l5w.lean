theorem mw_1134 : (Cond.methodLink RL 141 yX11_save) ∈ gx_G := gx_mem 1134 (by decide +kernel) (by decide +kernel)
theorem mw_1135 : (Cond.instanceMethod yX11_save) ∈ gx_G := gx_mem 1135 (by decide +kernel) (by decide +kernel)
theorem mw_1136 : (Cond.selects RX11 yX11_save yX11_save) ∈ gx_G := gx_mem 1136 (by decide +kernel) (by decide +kernel)
theorem mw_1137 : (Cond.code yX11_save cX11_save 2 (some .int)) ∈ gx_G := gx_mem 1137 (by decide +kernel) (by decide +kernel)
theorem mw_1178 : (Cond.methodLink RL 145 yX11_steer) ∈ gx_G := gx_mem 1178 (by decide +kernel) (by decide +kernel)
theorem mw_1179 : (Cond.instanceMethod yX11_steer) ∈ gx_G := gx_mem 1179 (by decide +kernel) (by decide +kernel)
theorem mw_1180 : (Cond.selects RX11 yX11_steer yX11_steer) ∈ gx_G := gx_mem 1180 (by decide +kernel) (by decide +kernel)
theorem mw_1181 : (Cond.code yX11_steer cX11_steer 3 (some .int)) ∈ gx_G := gx_mem 1181 (by decide +kernel) (by decide +kernel)
theorem mw_1182 : (Cond.methodLink RL 149 yX11_ways) ∈ gx_G := gx_mem 1182 (by decide +kernel) (by decide +kernel)
theorem mw_1183 : (Cond.instanceMethod yX11_ways) ∈ gx_G := gx_mem 1183 (by decide +kernel) (by decide +kernel)
theorem mw_1184 : (Cond.selects RX11 yX11_ways yX11_ways) ∈ gx_G := gx_mem 1184 (by decide +kernel) (by decide +kernel)
theorem mw_1185 : (Cond.code yX11_ways cX11_ways 10 (some .int)) ∈ gx_G := gx_mem 1185 (by decide +kernel) (by decide +kernel)
theorem mw_1186 : (Cond.methodLink RL 153 yX11_duel) ∈ gx_G := gx_mem 1186 (by decide +kernel) (by decide +kernel)
theorem mw_1187 : (Cond.instanceMethod yX11_duel) ∈ gx_G := gx_mem 1187 (by decide +kernel) (by decide +kernel)
theorem mw_1188 : (Cond.selects RX11 yX11_duel yX11_duel) ∈ gx_G := gx_mem 1188 (by decide +kernel) (by decide +kernel)
theorem mw_1189 : (Cond.code yX11_duel cX11_duel 9 (some .int)) ∈ gx_G := gx_mem 1189 (by decide +kernel) (by decide +kernel)
theorem mw_1194 : (Cond.methodLink RL 157 yX11_cork) ∈ gx_G := gx_mem 1194 (by decide +kernel) (by decide +kernel)
theorem mw_1195 : (Cond.instanceMethod yX11_cork) ∈ gx_G := gx_mem 1195 (by decide +kernel) (by decide +kernel)
theorem mw_1196 : (Cond.selects RX11 yX11_cork yX11_cork) ∈ gx_G := gx_mem 1196 (by decide +kernel) (by decide +kernel)
theorem mw_1197 : (Cond.code yX11_cork cX11_cork 5 (some .int)) ∈ gx_G := gx_mem 1197 (by decide +kernel) (by decide +kernel)
theorem mw_2007 : (Cond.methodLink RL 144 yX12_save) ∈ gx_G := gx_mem 2007 (by decide +kernel) (by decide +kernel)
theorem mw_2008 : (Cond.instanceMethod yX12_save) ∈ gx_G := gx_mem 2008 (by decide +kernel) (by decide +kernel)
theorem mw_2009 : (Cond.selects RX12 yX12_save yX12_save) ∈ gx_G := gx_mem 2009 (by decide +kernel) (by decide +kernel)
theorem mw_2010 : (Cond.code yX12_save cX12_save 2 (some .int)) ∈ gx_G := gx_mem 2010 (by decide +kernel) (by decide +kernel)
theorem mw_2023 : (Cond.methodLink RL 148 yX12_steer) ∈ gx_G := gx_mem 2023 (by decide +kernel) (by decide +kernel)
theorem mw_2024 : (Cond.instanceMethod yX12_steer) ∈ gx_G := gx_mem 2024 (by decide +kernel) (by decide +kernel)
theorem mw_2025 : (Cond.selects RX12 yX12_steer yX12_steer) ∈ gx_G := gx_mem 2025 (by decide +kernel) (by decide +kernel)
theorem mw_2026 : (Cond.code yX12_steer cX12_steer 3 (some .int)) ∈ gx_G := gx_mem 2026 (by decide +kernel) (by decide +kernel)
theorem mw_2027 : (Cond.methodLink RL 152 yX12_ways) ∈ gx_G := gx_mem 2027 (by decide +kernel) (by decide +kernel)
theorem mw_2028 : (Cond.instanceMethod yX12_ways) ∈ gx_G := gx_mem 2028 (by decide +kernel) (by decide +kernel)
theorem mw_2029 : (Cond.selects RX12 yX12_ways yX12_ways) ∈ gx_G := gx_mem 2029 (by decide +kernel) (by decide +kernel)
theorem mw_2030 : (Cond.code yX12_ways cX12_ways 10 (some .int)) ∈ gx_G := gx_mem 2030 (by decide +kernel) (by decide +kernel)
theorem mw_2031 : (Cond.methodLink RL 156 yX12_duel) ∈ gx_G := gx_mem 2031 (by decide +kernel) (by decide +kernel)
theorem mw_2032 : (Cond.instanceMethod yX12_duel) ∈ gx_G := gx_mem 2032 (by decide +kernel) (by decide +kernel)
theorem mw_2033 : (Cond.selects RX12 yX12_duel yX12_duel) ∈ gx_G := gx_mem 2033 (by decide +kernel) (by decide +kernel)
theorem mw_2034 : (Cond.code yX12_duel cX12_duel 9 (some .int)) ∈ gx_G := gx_mem 2034 (by decide +kernel) (by decide +kernel)
theorem mw_2043 : (Cond.methodLink RL 160 yX12_cork) ∈ gx_G := gx_mem 2043 (by decide +kernel) (by decide +kernel)
theorem mw_2044 : (Cond.instanceMethod yX12_cork) ∈ gx_G := gx_mem 2044 (by decide +kernel) (by decide +kernel)
theorem mw_2045 : (Cond.selects RX12 yX12_cork yX12_cork) ∈ gx_G := gx_mem 2045 (by decide +kernel) (by decide +kernel)
theorem mw_2046 : (Cond.code yX12_cork cX12_cork 4 (some .int)) ∈ gx_G := gx_mem 2046 (by decide +kernel) (by decide +kernel)
theorem cw_L_141 : gx_Wv RL 141 yX11_save cX11_save 2 (some .int) 1 := ⟨⟨mw_1134, mw_1135, mw_1136, mw_89, mw_1137⟩, by decide +kernel⟩
theorem cw_L_144 : gx_Wv RL 144 yX12_save cX12_save 2 (some .int) 1 := ⟨⟨mw_2007, mw_2008, mw_2009, mw_101, mw_2010⟩, by decide +kernel⟩
theorem cw_L_145 : gx_Wv RL 145 yX11_steer cX11_steer 3 (some .int) 2 := ⟨⟨mw_1178, mw_1179, mw_1180, mw_89, mw_1181⟩, by decide +kernel⟩
theorem cw_L_148 : gx_Wv RL 148 yX12_steer cX12_steer 3 (some .int) 2 := ⟨⟨mw_2023, mw_2024, mw_2025, mw_101, mw_2026⟩, by decide +kernel⟩
theorem cw_L_149 : gx_Wv RL 149 yX11_ways cX11_ways 10 (some .int) 4 := ⟨⟨mw_1182, mw_1183, mw_1184, mw_89, mw_1185⟩, by decide +kernel⟩
theorem cw_L_152 : gx_Wv RL 152 yX12_ways cX12_ways 10 (some .int) 4 := ⟨⟨mw_2027, mw_2028, mw_2029, mw_101, mw_2030⟩, by decide +kernel⟩
theorem cw_L_153 : gx_Wv RL 153 yX11_duel cX11_duel 9 (some .int) 5 := ⟨⟨mw_1186, mw_1187, mw_1188, mw_89, mw_1189⟩, by decide +kernel⟩
theorem cw_L_156 : gx_Wv RL 156 yX12_duel cX12_duel 9 (some .int) 5 := ⟨⟨mw_2031, mw_2032, mw_2033, mw_101, mw_2034⟩, by decide +kernel⟩
theorem cw_L_157 : gx_Wv RL 157 yX11_cork cX11_cork 5 (some .int) 3 := ⟨⟨mw_1194, mw_1195, mw_1196, mw_89, mw_1197⟩, by decide +kernel⟩
theorem cw_L_160 : gx_Wv RL 160 yX12_cork cX12_cork 4 (some .int) 3 := ⟨⟨mw_2043, mw_2044, mw_2045, mw_101, mw_2046⟩, by decide +kernel⟩
theorem dL_law_1184 : decode cL_law 1184 = .ok (.aload_n 1, 1) := by decide +kernel
theorem dL_law_1185 : decode cL_law 1185 = .ok (.aload_n 0, 1) := by decide +kernel
theorem dL_law_1186 : decode cL_law 1186 = .ok (.iload 4, 2) := by decide +kernel
theorem dL_law_1188 : decode cL_law 1188 = .ok (.iconst 1, 1) := by decide +kernel
theorem dL_law_1189 : decode cL_law 1189 = .ok (.iadd, 1) := by decide +kernel
theorem dL_law_1190 : decode cL_law 1190 = .ok (.iaload, 1) := by decide +kernel
theorem dL_law_1191 : decode cL_law 1191 = .ok (.invokevirtual 141, 3) := by decide +kernel
theorem dL_law_1194 : decode cL_law 1194 = .ok (.aload_n 2, 1) := by decide +kernel
theorem dL_law_1195 : decode cL_law 1195 = .ok (.aload_n 0, 1) := by decide +kernel
theorem dL_law_1196 : decode cL_law 1196 = .ok (.iload 4, 2) := by decide +kernel
theorem dL_law_1198 : decode cL_law 1198 = .ok (.iconst 1, 1) := by decide +kernel
theorem dL_law_1199 : decode cL_law 1199 = .ok (.iadd, 1) := by decide +kernel
theorem dL_law_1200 : decode cL_law 1200 = .ok (.iaload, 1) := by decide +kernel
theorem dL_law_1201 : decode cL_law 1201 = .ok (.invokevirtual 144, 3) := by decide +kernel
theorem dL_law_1204 : decode cL_law 1204 = .ok (.if_icmp .eq 541, 3) := by decide +kernel
theorem dL_law_1209 : decode cL_law 1209 = .ok (.aload_n 1, 1) := by decide +kernel
theorem dL_law_1210 : decode cL_law 1210 = .ok (.aload_n 0, 1) := by decide +kernel
theorem dL_law_1211 : decode cL_law 1211 = .ok (.iload 4, 2) := by decide +kernel
theorem dL_law_1213 : decode cL_law 1213 = .ok (.iconst 1, 1) := by decide +kernel
theorem dL_law_1214 : decode cL_law 1214 = .ok (.iadd, 1) := by decide +kernel
theorem dL_law_1215 : decode cL_law 1215 = .ok (.iaload, 1) := by decide +kernel
theorem dL_law_1216 : decode cL_law 1216 = .ok (.aload_n 0, 1) := by decide +kernel
theorem dL_law_1217 : decode cL_law 1217 = .ok (.iload 4, 2) := by decide +kernel
theorem dL_law_1219 : decode cL_law 1219 = .ok (.iconst 2, 1) := by decide +kernel
theorem dL_law_1220 : decode cL_law 1220 = .ok (.iadd, 1) := by decide +kernel
theorem dL_law_1221 : decode cL_law 1221 = .ok (.iaload, 1) := by decide +kernel
theorem dL_law_1222 : decode cL_law 1222 = .ok (.invokevirtual 145, 3) := by decide +kernel
theorem dL_law_1225 : decode cL_law 1225 = .ok (.aload_n 2, 1) := by decide +kernel
theorem dL_law_1226 : decode cL_law 1226 = .ok (.aload_n 0, 1) := by decide +kernel
theorem dL_law_1227 : decode cL_law 1227 = .ok (.iload 4, 2) := by decide +kernel
theorem dL_law_1229 : decode cL_law 1229 = .ok (.iconst 1, 1) := by decide +kernel
theorem dL_law_1230 : decode cL_law 1230 = .ok (.iadd, 1) := by decide +kernel
theorem dL_law_1231 : decode cL_law 1231 = .ok (.iaload, 1) := by decide +kernel
theorem dL_law_1232 : decode cL_law 1232 = .ok (.aload_n 0, 1) := by decide +kernel
theorem dL_law_1233 : decode cL_law 1233 = .ok (.iload 4, 2) := by decide +kernel
theorem dL_law_1235 : decode cL_law 1235 = .ok (.iconst 2, 1) := by decide +kernel
theorem dL_law_1236 : decode cL_law 1236 = .ok (.iadd, 1) := by decide +kernel
theorem dL_law_1237 : decode cL_law 1237 = .ok (.iaload, 1) := by decide +kernel
theorem dL_law_1238 : decode cL_law 1238 = .ok (.invokevirtual 148, 3) := by decide +kernel
theorem dL_law_1241 : decode cL_law 1241 = .ok (.if_icmp .eq 504, 3) := by decide +kernel
theorem dL_law_1246 : decode cL_law 1246 = .ok (.aload_n 1, 1) := by decide +kernel
theorem dL_law_1247 : decode cL_law 1247 = .ok (.aload_n 0, 1) := by decide +kernel
theorem dL_law_1248 : decode cL_law 1248 = .ok (.iload 4, 2) := by decide +kernel
theorem dL_law_1250 : decode cL_law 1250 = .ok (.iconst 1, 1) := by decide +kernel
theorem dL_law_1251 : decode cL_law 1251 = .ok (.iadd, 1) := by decide +kernel
theorem dL_law_1252 : decode cL_law 1252 = .ok (.iaload, 1) := by decide +kernel
theorem dL_law_1253 : decode cL_law 1253 = .ok (.aload_n 0, 1) := by decide +kernel
theorem dL_law_1254 : decode cL_law 1254 = .ok (.iload 4, 2) := by decide +kernel
theorem dL_law_1256 : decode cL_law 1256 = .ok (.iconst 2, 1) := by decide +kernel
theorem dL_law_1257 : decode cL_law 1257 = .ok (.iadd, 1) := by decide +kernel
theorem dL_law_1258 : decode cL_law 1258 = .ok (.iaload, 1) := by decide +kernel
theorem dL_law_1259 : decode cL_law 1259 = .ok (.aload_n 0, 1) := by decide +kernel
theorem dL_law_1260 : decode cL_law 1260 = .ok (.iload 4, 2) := by decide +kernel
theorem dL_law_1262 : decode cL_law 1262 = .ok (.iconst 3, 1) := by decide +kernel
theorem dL_law_1263 : decode cL_law 1263 = .ok (.iadd, 1) := by decide +kernel
theorem dL_law_1264 : decode cL_law 1264 = .ok (.iaload, 1) := by decide +kernel
theorem dL_law_1265 : decode cL_law 1265 = .ok (.aload_n 0, 1) := by decide +kernel
theorem dL_law_1266 : decode cL_law 1266 = .ok (.iload 4, 2) := by decide +kernel
theorem dL_law_1268 : decode cL_law 1268 = .ok (.iconst 4, 1) := by decide +kernel
theorem dL_law_1269 : decode cL_law 1269 = .ok (.iadd, 1) := by decide +kernel
theorem dL_law_1270 : decode cL_law 1270 = .ok (.iaload, 1) := by decide +kernel
theorem dL_law_1271 : decode cL_law 1271 = .ok (.invokevirtual 149, 3) := by decide +kernel
theorem dL_law_1274 : decode cL_law 1274 = .ok (.aload_n 2, 1) := by decide +kernel
theorem dL_law_1275 : decode cL_law 1275 = .ok (.aload_n 0, 1) := by decide +kernel
theorem dL_law_1276 : decode cL_law 1276 = .ok (.iload 4, 2) := by decide +kernel
theorem dL_law_1278 : decode cL_law 1278 = .ok (.iconst 1, 1) := by decide +kernel
theorem dL_law_1279 : decode cL_law 1279 = .ok (.iadd, 1) := by decide +kernel
theorem dL_law_1280 : decode cL_law 1280 = .ok (.iaload, 1) := by decide +kernel
theorem dL_law_1281 : decode cL_law 1281 = .ok (.aload_n 0, 1) := by decide +kernel
theorem dL_law_1282 : decode cL_law 1282 = .ok (.iload 4, 2) := by decide +kernel
theorem dL_law_1284 : decode cL_law 1284 = .ok (.iconst 2, 1) := by decide +kernel
theorem dL_law_1285 : decode cL_law 1285 = .ok (.iadd, 1) := by decide +kernel
theorem dL_law_1286 : decode cL_law 1286 = .ok (.iaload, 1) := by decide +kernel
theorem dL_law_1287 : decode cL_law 1287 = .ok (.aload_n 0, 1) := by decide +kernel
theorem dL_law_1288 : decode cL_law 1288 = .ok (.iload 4, 2) := by decide +kernel
theorem dL_law_1290 : decode cL_law 1290 = .ok (.iconst 3, 1) := by decide +kernel
theorem dL_law_1291 : decode cL_law 1291 = .ok (.iadd, 1) := by decide +kernel
theorem dL_law_1292 : decode cL_law 1292 = .ok (.iaload, 1) := by decide +kernel
theorem dL_law_1293 : decode cL_law 1293 = .ok (.aload_n 0, 1) := by decide +kernel
theorem dL_law_1294 : decode cL_law 1294 = .ok (.iload 4, 2) := by decide +kernel
theorem dL_law_1296 : decode cL_law 1296 = .ok (.iconst 4, 1) := by decide +kernel
theorem dL_law_1297 : decode cL_law 1297 = .ok (.iadd, 1) := by decide +kernel
theorem dL_law_1298 : decode cL_law 1298 = .ok (.iaload, 1) := by decide +kernel
theorem dL_law_1299 : decode cL_law 1299 = .ok (.invokevirtual 152, 3) := by decide +kernel
theorem dL_law_1302 : decode cL_law 1302 = .ok (.if_icmp .eq 443, 3) := by decide +kernel
theorem dL_law_1307 : decode cL_law 1307 = .ok (.aload_n 1, 1) := by decide +kernel
theorem dL_law_1308 : decode cL_law 1308 = .ok (.aload_n 0, 1) := by decide +kernel
theorem dL_law_1309 : decode cL_law 1309 = .ok (.iload 4, 2) := by decide +kernel
theorem dL_law_1311 : decode cL_law 1311 = .ok (.iconst 1, 1) := by decide +kernel
theorem dL_law_1312 : decode cL_law 1312 = .ok (.iadd, 1) := by decide +kernel
theorem dL_law_1313 : decode cL_law 1313 = .ok (.iaload, 1) := by decide +kernel
theorem dL_law_1314 : decode cL_law 1314 = .ok (.aload_n 0, 1) := by decide +kernel
theorem dL_law_1315 : decode cL_law 1315 = .ok (.iload 4, 2) := by decide +kernel
theorem dL_law_1317 : decode cL_law 1317 = .ok (.iconst 2, 1) := by decide +kernel
theorem dL_law_1318 : decode cL_law 1318 = .ok (.iadd, 1) := by decide +kernel
theorem dL_law_1319 : decode cL_law 1319 = .ok (.iaload, 1) := by decide +kernel
theorem dL_law_1320 : decode cL_law 1320 = .ok (.aload_n 0, 1) := by decide +kernel
theorem dL_law_1321 : decode cL_law 1321 = .ok (.iload 4, 2) := by decide +kernel
theorem dL_law_1323 : decode cL_law 1323 = .ok (.iconst 3, 1) := by decide +kernel
theorem dL_law_1324 : decode cL_law 1324 = .ok (.iadd, 1) := by decide +kernel
theorem dL_law_1325 : decode cL_law 1325 = .ok (.iaload, 1) := by decide +kernel
theorem dL_law_1326 : decode cL_law 1326 = .ok (.aload_n 0, 1) := by decide +kernel
theorem dL_law_1327 : decode cL_law 1327 = .ok (.iload 4, 2) := by decide +kernel
theorem dL_law_1329 : decode cL_law 1329 = .ok (.iconst 4, 1) := by decide +kernel
theorem dL_law_1330 : decode cL_law 1330 = .ok (.iadd, 1) := by decide +kernel
theorem dL_law_1331 : decode cL_law 1331 = .ok (.iaload, 1) := by decide +kernel
theorem dL_law_1332 : decode cL_law 1332 = .ok (.aload_n 0, 1) := by decide +kernel
theorem dL_law_1333 : decode cL_law 1333 = .ok (.iload 4, 2) := by decide +kernel
theorem dL_law_1335 : decode cL_law 1335 = .ok (.iconst 5, 1) := by decide +kernel
theorem dL_law_1336 : decode cL_law 1336 = .ok (.iadd, 1) := by decide +kernel
theorem dL_law_1337 : decode cL_law 1337 = .ok (.iaload, 1) := by decide +kernel
theorem dL_law_1338 : decode cL_law 1338 = .ok (.invokevirtual 153, 3) := by decide +kernel
theorem dL_law_1341 : decode cL_law 1341 = .ok (.aload_n 2, 1) := by decide +kernel
theorem dL_law_1342 : decode cL_law 1342 = .ok (.aload_n 0, 1) := by decide +kernel
theorem dL_law_1343 : decode cL_law 1343 = .ok (.iload 4, 2) := by decide +kernel
theorem dL_law_1345 : decode cL_law 1345 = .ok (.iconst 1, 1) := by decide +kernel
theorem dL_law_1346 : decode cL_law 1346 = .ok (.iadd, 1) := by decide +kernel
theorem dL_law_1347 : decode cL_law 1347 = .ok (.iaload, 1) := by decide +kernel
theorem dL_law_1348 : decode cL_law 1348 = .ok (.aload_n 0, 1) := by decide +kernel
theorem dL_law_1349 : decode cL_law 1349 = .ok (.iload 4, 2) := by decide +kernel
theorem dL_law_1351 : decode cL_law 1351 = .ok (.iconst 2, 1) := by decide +kernel
theorem dL_law_1352 : decode cL_law 1352 = .ok (.iadd, 1) := by decide +kernel
theorem dL_law_1353 : decode cL_law 1353 = .ok (.iaload, 1) := by decide +kernel
theorem dL_law_1354 : decode cL_law 1354 = .ok (.aload_n 0, 1) := by decide +kernel
theorem dL_law_1355 : decode cL_law 1355 = .ok (.iload 4, 2) := by decide +kernel
theorem dL_law_1357 : decode cL_law 1357 = .ok (.iconst 3, 1) := by decide +kernel
theorem dL_law_1358 : decode cL_law 1358 = .ok (.iadd, 1) := by decide +kernel
theorem dL_law_1359 : decode cL_law 1359 = .ok (.iaload, 1) := by decide +kernel
theorem dL_law_1360 : decode cL_law 1360 = .ok (.aload_n 0, 1) := by decide +kernel
theorem dL_law_1361 : decode cL_law 1361 = .ok (.iload 4, 2) := by decide +kernel
theorem dL_law_1363 : decode cL_law 1363 = .ok (.iconst 4, 1) := by decide +kernel
theorem dL_law_1364 : decode cL_law 1364 = .ok (.iadd, 1) := by decide +kernel
theorem dL_law_1365 : decode cL_law 1365 = .ok (.iaload, 1) := by decide +kernel
theorem dL_law_1366 : decode cL_law 1366 = .ok (.aload_n 0, 1) := by decide +kernel
theorem dL_law_1367 : decode cL_law 1367 = .ok (.iload 4, 2) := by decide +kernel
theorem dL_law_1369 : decode cL_law 1369 = .ok (.iconst 5, 1) := by decide +kernel
theorem dL_law_1370 : decode cL_law 1370 = .ok (.iadd, 1) := by decide +kernel
theorem dL_law_1371 : decode cL_law 1371 = .ok (.iaload, 1) := by decide +kernel
theorem dL_law_1372 : decode cL_law 1372 = .ok (.invokevirtual 156, 3) := by decide +kernel
theorem dL_law_1375 : decode cL_law 1375 = .ok (.if_icmp .eq 370, 3) := by decide +kernel
theorem dL_law_1380 : decode cL_law 1380 = .ok (.aload_n 1, 1) := by decide +kernel
theorem dL_law_1381 : decode cL_law 1381 = .ok (.aload_n 0, 1) := by decide +kernel
theorem dL_law_1382 : decode cL_law 1382 = .ok (.iload 4, 2) := by decide +kernel
theorem dL_law_1384 : decode cL_law 1384 = .ok (.iconst 1, 1) := by decide +kernel
theorem dL_law_1385 : decode cL_law 1385 = .ok (.iadd, 1) := by decide +kernel
theorem dL_law_1386 : decode cL_law 1386 = .ok (.iaload, 1) := by decide +kernel
theorem dL_law_1387 : decode cL_law 1387 = .ok (.aload_n 0, 1) := by decide +kernel
theorem dL_law_1388 : decode cL_law 1388 = .ok (.iload 4, 2) := by decide +kernel
theorem dL_law_1390 : decode cL_law 1390 = .ok (.iconst 2, 1) := by decide +kernel
theorem dL_law_1391 : decode cL_law 1391 = .ok (.iadd, 1) := by decide +kernel
theorem dL_law_1392 : decode cL_law 1392 = .ok (.iaload, 1) := by decide +kernel
theorem dL_law_1393 : decode cL_law 1393 = .ok (.aload_n 0, 1) := by decide +kernel
theorem dL_law_1394 : decode cL_law 1394 = .ok (.iload 4, 2) := by decide +kernel
theorem dL_law_1396 : decode cL_law 1396 = .ok (.iconst 3, 1) := by decide +kernel
theorem dL_law_1397 : decode cL_law 1397 = .ok (.iadd, 1) := by decide +kernel
theorem dL_law_1398 : decode cL_law 1398 = .ok (.iaload, 1) := by decide +kernel
theorem dL_law_1399 : decode cL_law 1399 = .ok (.invokevirtual 157, 3) := by decide +kernel
theorem dL_law_1402 : decode cL_law 1402 = .ok (.aload_n 2, 1) := by decide +kernel
theorem dL_law_1403 : decode cL_law 1403 = .ok (.aload_n 0, 1) := by decide +kernel
theorem dL_law_1404 : decode cL_law 1404 = .ok (.iload 4, 2) := by decide +kernel
theorem dL_law_1406 : decode cL_law 1406 = .ok (.iconst 1, 1) := by decide +kernel
theorem dL_law_1407 : decode cL_law 1407 = .ok (.iadd, 1) := by decide +kernel
theorem dL_law_1408 : decode cL_law 1408 = .ok (.iaload, 1) := by decide +kernel
theorem dL_law_1409 : decode cL_law 1409 = .ok (.aload_n 0, 1) := by decide +kernel
theorem dL_law_1410 : decode cL_law 1410 = .ok (.iload 4, 2) := by decide +kernel
theorem dL_law_1412 : decode cL_law 1412 = .ok (.iconst 2, 1) := by decide +kernel
theorem dL_law_1413 : decode cL_law 1413 = .ok (.iadd, 1) := by decide +kernel
theorem dL_law_1414 : decode cL_law 1414 = .ok (.iaload, 1) := by decide +kernel
theorem dL_law_1415 : decode cL_law 1415 = .ok (.aload_n 0, 1) := by decide +kernel
theorem dL_law_1416 : decode cL_law 1416 = .ok (.iload 4, 2) := by decide +kernel
theorem dL_law_1418 : decode cL_law 1418 = .ok (.iconst 3, 1) := by decide +kernel
theorem dL_law_1419 : decode cL_law 1419 = .ok (.iadd, 1) := by decide +kernel
theorem dL_law_1420 : decode cL_law 1420 = .ok (.iaload, 1) := by decide +kernel
theorem dL_law_1421 : decode cL_law 1421 = .ok (.invokevirtual 160, 3) := by decide +kernel
theorem dL_law_1424 : decode cL_law 1424 = .ok (.if_icmp .eq 321, 3) := by decide +kernel
