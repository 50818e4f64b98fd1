section LC26
variable {P9 : Program} {e9 : Env} {s : State} {m9 : MethodId} {below : List Frame} {meth : Method} {C9 : Code} {E : gE} {b : Nat} {xs : Nat → Int32} {H : Heap} {locs : List Loc} {Q : State → Prop} {ls : Array Slot}
set_option maxHeartbeats 4000000 in
set_option maxRecDepth 100000 in
theorem lc_26 (l : Launch) (hl9 : l.stackTraces = false) (S : CallFix P9 m9 C9 cL_law 8 s #[Value.ref b] gx_G RL) (hK : gx_K E s) (hT9 : gx_T s) (hA : gx_Ok gx_tb 0 E s) (hX : va_X b 6 xs s s.heap) (hbl : b < s.heap.size) (hbA : ¬ gx_A 0 E.2.2 s.heap.size b) (hw : gx_W gx_tb 0 E s gs0 gt0 H locs) (hl : lv_has ls 8 [(4, .int 0), (3, .ref (E.2.2 + 233)), (2, .ref (E.2.2 + 199)), (1, .ref (E.2.2 + 0)), (0, .ref b)]) (kk : ∀ (σ : gI) (τ : gJ) (H : Heap) (locs : List Loc) (ls : Array Slot), gx_W gx_tb 0 E s σ τ H locs → lv_has ls 8 [(4, .int 0), (3, .ref (E.2.2 + 233)), (2, .ref (E.2.2 + 199)), (1, .ref (E.2.2 + 0)), (0, .ref b)] → W P9 l e9 room_1 s m9 #[Value.ref b] below meth C9 H locs 235 20159 Q (F0 m9 1745 ls [])) : W P9 l e9 room_1 s m9 #[Value.ref b] below meth C9 H locs 234 20153 Q (F0 m9 1184 ls []) := by
  have hx := S.1
  have hb := S.2.1
  refine lv_aload_n hx hb dL_law_1184 rfl (lv_at hl 3 rfl) ?_
  refine lv_aload_n hx hb dL_law_1185 rfl (lv_at hl 4 rfl) ?_
  refine lv_iload hx hb dL_law_1186 (lv_at hl 0 rfl) ?_
  refine lv_iconst (v := 1) hx hb dL_law_1188 (by decide) ?_
  refine lv_iadd hx hb dL_law_1189 ?_
  refine gx_top (v := 1) (by decide) ?_
  refine va_sld (i := 1) hx hb hX hbl hbA hw.2 (gx_in rfl (by decide) (by decide)) dL_law_1190 ?_
  refine gx_top (v := xs 1) rfl ?_
  refine gx_cVi (As := [.int (xs 1)]) (rest := []) S hK hA hw (c_x_save l (E := E) (xs 1)) cw_L_141 t_0 cl_12 ⟨Nat.le_of_ble_eq_true rfl, Nat.le_of_ble_eq_true rfl⟩ rfl hl.1 rfl (Nat.le_of_ble_eq_true rfl) ⟨Nat.le_of_ble_eq_true rfl, Nat.le_of_ble_eq_true rfl⟩ dL_law_1191 (fun r_1 σ_1 τ_1 H locs hp hw => ?_)
  obtain ⟨er_1, hs_1, -⟩ := hp
  obtain rfl := er_1.symm
  refine lv_aload_n hx hb dL_law_1194 rfl (lv_at hl 2 rfl) ?_
  refine lv_aload_n hx hb dL_law_1195 rfl (lv_at hl 4 rfl) ?_
  refine lv_iload hx hb dL_law_1196 (lv_at hl 0 rfl) ?_
  refine lv_iconst (v := 1) hx hb dL_law_1198 (by decide) ?_
  refine lv_iadd hx hb dL_law_1199 ?_
  refine gx_top (v := 1) (by decide) ?_
  refine va_sld (i := 1) hx hb hX hbl hbA hw.2 (gx_in rfl (by decide) (by decide)) dL_law_1200 ?_
  refine gx_top (v := xs 1) rfl ?_
  refine gx_cVi (As := [.int (xs 1)]) (rest := [.int (if (xs 1).toInt = 0 then 0 else (-1))]) S hK hA hw (c_m_save l (E := E) (σ_1) (τ_1) (xs 1) (fun c9 k9 h9 => (hs_1 c9 k9 h9).trans (gs0_hi h9))) cw_L_144 t_199 cl_13 ⟨Nat.le_of_ble_eq_true rfl, Nat.le_of_ble_eq_true rfl⟩ rfl hl.1 rfl (Nat.le_of_ble_eq_true rfl) ⟨Nat.le_of_ble_eq_true rfl, Nat.le_of_ble_eq_true rfl⟩ dL_law_1201 (fun r_2 σ_2 τ_2 H locs hp hw => ?_)
  obtain ⟨er_2, -, -⟩ := hp
  obtain rfl := er_2.symm
  refine lv_icmp_eq (tgt := 1745) hx hb dL_law_1204 (by decide) (fun _ => ?_) (fun h => absurd rfl h)
  refine W.widen (k := 235) (n := 20159) (by omega) (by omega) ?_
  exact kk _ _ _ _ _ hw (lv_sub hl [0, 1, 2, 3, 4] rfl)
set_option maxHeartbeats 4000000 in
set_option maxRecDepth 100000 in
theorem lc_27 (l : Launch) (hl9 : l.stackTraces = false) (S : CallFix P9 m9 C9 cL_law 8 s #[Value.ref b] gx_G RL) (hK : gx_K E s) (hT9 : gx_T s) (hA : gx_Ok gx_tb 0 E s) (hX : va_X b 6 xs s s.heap) (hbl : b < s.heap.size) (hbA : ¬ gx_A 0 E.2.2 s.heap.size b) (hw : gx_W gx_tb 0 E s gs0 gt0 H locs) (hl : lv_has ls 8 [(4, .int 0), (3, .ref (E.2.2 + 233)), (2, .ref (E.2.2 + 199)), (1, .ref (E.2.2 + 0)), (0, .ref b)]) (kk : ∀ (σ : gI) (τ : gJ) (H : Heap) (locs : List Loc) (ls : Array Slot), gx_W gx_tb 0 E s σ τ H locs → lv_has ls 8 [(4, .int 0), (3, .ref (E.2.2 + 233)), (2, .ref (E.2.2 + 199)), (1, .ref (E.2.2 + 0)), (0, .ref b)] → W P9 l e9 room_1 s m9 #[Value.ref b] below meth C9 H locs 235 20159 Q (F0 m9 1745 ls [])) : W P9 l e9 room_1 s m9 #[Value.ref b] below meth C9 H locs 234 20153 Q (F0 m9 1209 ls []) := by
  have hx := S.1
  have hb := S.2.1
  refine lv_aload_n hx hb dL_law_1209 rfl (lv_at hl 3 rfl) ?_
  refine lv_aload_n hx hb dL_law_1210 rfl (lv_at hl 4 rfl) ?_
  refine lv_iload hx hb dL_law_1211 (lv_at hl 0 rfl) ?_
  refine lv_iconst (v := 1) hx hb dL_law_1213 (by decide) ?_
  refine lv_iadd hx hb dL_law_1214 ?_
  refine gx_top (v := 1) (by decide) ?_
  refine va_sld (i := 1) hx hb hX hbl hbA hw.2 (gx_in rfl (by decide) (by decide)) dL_law_1215 ?_
  refine gx_top (v := xs 1) rfl ?_
  refine lv_aload_n hx hb dL_law_1216 rfl (lv_at hl 4 rfl) ?_
  refine lv_iload hx hb dL_law_1217 (lv_at hl 0 rfl) ?_
  refine lv_iconst (v := 2) hx hb dL_law_1219 (by decide) ?_
  refine lv_iadd hx hb dL_law_1220 ?_
  refine gx_top (v := 2) (by decide) ?_
  refine va_sld (i := 2) hx hb hX hbl hbA hw.2 (gx_in rfl (by decide) (by decide)) dL_law_1221 ?_
  refine gx_top (v := xs 2) rfl ?_
  refine gx_cVi (As := [.int (xs 1), .int (xs 2)]) (rest := []) S hK hA hw (c_x_steer l (E := E) (xs 1) (xs 2)) cw_L_145 t_0 cl_12 ⟨Nat.le_of_ble_eq_true rfl, Nat.le_of_ble_eq_true rfl⟩ rfl hl.1 rfl (Nat.le_of_ble_eq_true rfl) ⟨Nat.le_of_ble_eq_true rfl, Nat.le_of_ble_eq_true rfl⟩ dL_law_1222 (fun r_1 σ_1 τ_1 H locs hp hw => ?_)
  obtain ⟨er_1, hs_1, -⟩ := hp
  obtain rfl := er_1.symm
  refine lv_aload_n hx hb dL_law_1225 rfl (lv_at hl 2 rfl) ?_
  refine lv_aload_n hx hb dL_law_1226 rfl (lv_at hl 4 rfl) ?_
  refine lv_iload hx hb dL_law_1227 (lv_at hl 0 rfl) ?_
  refine lv_iconst (v := 1) hx hb dL_law_1229 (by decide) ?_
  refine lv_iadd hx hb dL_law_1230 ?_
  refine gx_top (v := 1) (by decide) ?_
  refine va_sld (i := 1) hx hb hX hbl hbA hw.2 (gx_in rfl (by decide) (by decide)) dL_law_1231 ?_
  refine gx_top (v := xs 1) rfl ?_
  refine lv_aload_n hx hb dL_law_1232 rfl (lv_at hl 4 rfl) ?_
  refine lv_iload hx hb dL_law_1233 (lv_at hl 0 rfl) ?_
  refine lv_iconst (v := 2) hx hb dL_law_1235 (by decide) ?_
  refine lv_iadd hx hb dL_law_1236 ?_
  refine gx_top (v := 2) (by decide) ?_
  refine va_sld (i := 2) hx hb hX hbl hbA hw.2 (gx_in rfl (by decide) (by decide)) dL_law_1237 ?_
  refine gx_top (v := xs 2) rfl ?_
  refine gx_cVi (As := [.int (xs 1), .int (xs 2)]) (rest := [.int (-1)]) S hK hA hw (c_m_steer l (E := E) (σ_1) (τ_1) (xs 1) (xs 2) (fun c9 k9 h9 => (hs_1 c9 k9 h9).trans (gs0_hi h9))) cw_L_148 t_199 cl_13 ⟨Nat.le_of_ble_eq_true rfl, Nat.le_of_ble_eq_true rfl⟩ rfl hl.1 rfl (Nat.le_of_ble_eq_true rfl) ⟨Nat.le_of_ble_eq_true rfl, Nat.le_of_ble_eq_true rfl⟩ dL_law_1238 (fun r_2 σ_2 τ_2 H locs hp hw => ?_)
  obtain ⟨er_2, -, -⟩ := hp
  obtain rfl := er_2.symm
  refine lv_icmp_eq (tgt := 1745) hx hb dL_law_1241 (by decide) (fun _ => ?_) (fun h => absurd rfl h)
  refine W.widen (k := 235) (n := 20159) (by omega) (by omega) ?_
  exact kk _ _ _ _ _ hw (lv_sub hl [0, 1, 2, 3, 4] rfl)
set_option maxHeartbeats 4000000 in
set_option maxRecDepth 100000 in
theorem lc_28 (l : Launch) (hl9 : l.stackTraces = false) (S : CallFix P9 m9 C9 cL_law 8 s #[Value.ref b] gx_G RL) (hK : gx_K E s) (hT9 : gx_T s) (hA : gx_Ok gx_tb 0 E s) (hX : va_X b 6 xs s s.heap) (hbl : b < s.heap.size) (hbA : ¬ gx_A 0 E.2.2 s.heap.size b) (hw : gx_W gx_tb 0 E s gs0 gt0 H locs) (hl : lv_has ls 8 [(4, .int 0), (3, .ref (E.2.2 + 233)), (2, .ref (E.2.2 + 199)), (1, .ref (E.2.2 + 0)), (0, .ref b)]) (kk : ∀ (σ : gI) (τ : gJ) (H : Heap) (locs : List Loc) (ls : Array Slot), gx_W gx_tb 0 E s σ τ H locs → lv_has ls 8 [(4, .int 0), (3, .ref (E.2.2 + 233)), (2, .ref (E.2.2 + 199)), (1, .ref (E.2.2 + 0)), (0, .ref b)] → W P9 l e9 room_1 s m9 #[Value.ref b] below meth C9 H locs 235 20159 Q (F0 m9 1745 ls [])) : W P9 l e9 room_1 s m9 #[Value.ref b] below meth C9 H locs 234 20153 Q (F0 m9 1246 ls []) := by
  have hx := S.1
  have hb := S.2.1
  refine lv_aload_n hx hb dL_law_1246 rfl (lv_at hl 3 rfl) ?_
  refine lv_aload_n hx hb dL_law_1247 rfl (lv_at hl 4 rfl) ?_
  refine lv_iload hx hb dL_law_1248 (lv_at hl 0 rfl) ?_
  refine lv_iconst (v := 1) hx hb dL_law_1250 (by decide) ?_
  refine lv_iadd hx hb dL_law_1251 ?_
  refine gx_top (v := 1) (by decide) ?_
  refine va_sld (i := 1) hx hb hX hbl hbA hw.2 (gx_in rfl (by decide) (by decide)) dL_law_1252 ?_
  refine gx_top (v := xs 1) rfl ?_
  refine lv_aload_n hx hb dL_law_1253 rfl (lv_at hl 4 rfl) ?_
  refine lv_iload hx hb dL_law_1254 (lv_at hl 0 rfl) ?_
  refine lv_iconst (v := 2) hx hb dL_law_1256 (by decide) ?_
  refine lv_iadd hx hb dL_law_1257 ?_
  refine gx_top (v := 2) (by decide) ?_
  refine va_sld (i := 2) hx hb hX hbl hbA hw.2 (gx_in rfl (by decide) (by decide)) dL_law_1258 ?_
  refine gx_top (v := xs 2) rfl ?_
  refine lv_aload_n hx hb dL_law_1259 rfl (lv_at hl 4 rfl) ?_
  refine lv_iload hx hb dL_law_1260 (lv_at hl 0 rfl) ?_
  refine lv_iconst (v := 3) hx hb dL_law_1262 (by decide) ?_
  refine lv_iadd hx hb dL_law_1263 ?_
  refine gx_top (v := 3) (by decide) ?_
  refine va_sld (i := 3) hx hb hX hbl hbA hw.2 (gx_in rfl (by decide) (by decide)) dL_law_1264 ?_
  refine gx_top (v := xs 3) rfl ?_
  refine lv_aload_n hx hb dL_law_1265 rfl (lv_at hl 4 rfl) ?_
  refine lv_iload hx hb dL_law_1266 (lv_at hl 0 rfl) ?_
  refine lv_iconst (v := 4) hx hb dL_law_1268 (by decide) ?_
  refine lv_iadd hx hb dL_law_1269 ?_
  refine gx_top (v := 4) (by decide) ?_
  refine va_sld (i := 4) hx hb hX hbl hbA hw.2 (gx_in rfl (by decide) (by decide)) dL_law_1270 ?_
  refine gx_top (v := xs 4) rfl ?_
  refine gx_cVi (As := [.int (xs 1), .int (xs 2), .int (xs 3), .int (xs 4)]) (rest := []) S hK hA hw (c_x_ways l (E := E) (xs 1) (xs 2) (xs 3) (xs 4)) cw_L_149 t_0 cl_12 ⟨Nat.le_of_ble_eq_true rfl, Nat.le_of_ble_eq_true rfl⟩ rfl hl.1 rfl (Nat.le_of_ble_eq_true rfl) ⟨Nat.le_of_ble_eq_true rfl, Nat.le_of_ble_eq_true rfl⟩ dL_law_1271 (fun r_1 σ_1 τ_1 H locs hp hw => ?_)
  obtain ⟨er_1, hs_1, -⟩ := hp
  obtain rfl := er_1.symm
  refine lv_aload_n hx hb dL_law_1274 rfl (lv_at hl 2 rfl) ?_
  refine lv_aload_n hx hb dL_law_1275 rfl (lv_at hl 4 rfl) ?_
  refine lv_iload hx hb dL_law_1276 (lv_at hl 0 rfl) ?_
  refine lv_iconst (v := 1) hx hb dL_law_1278 (by decide) ?_
  refine lv_iadd hx hb dL_law_1279 ?_
  refine gx_top (v := 1) (by decide) ?_
  refine va_sld (i := 1) hx hb hX hbl hbA hw.2 (gx_in rfl (by decide) (by decide)) dL_law_1280 ?_
  refine gx_top (v := xs 1) rfl ?_
  refine lv_aload_n hx hb dL_law_1281 rfl (lv_at hl 4 rfl) ?_
  refine lv_iload hx hb dL_law_1282 (lv_at hl 0 rfl) ?_
  refine lv_iconst (v := 2) hx hb dL_law_1284 (by decide) ?_
  refine lv_iadd hx hb dL_law_1285 ?_
  refine gx_top (v := 2) (by decide) ?_
  refine va_sld (i := 2) hx hb hX hbl hbA hw.2 (gx_in rfl (by decide) (by decide)) dL_law_1286 ?_
  refine gx_top (v := xs 2) rfl ?_
  refine lv_aload_n hx hb dL_law_1287 rfl (lv_at hl 4 rfl) ?_
  refine lv_iload hx hb dL_law_1288 (lv_at hl 0 rfl) ?_
  refine lv_iconst (v := 3) hx hb dL_law_1290 (by decide) ?_
  refine lv_iadd hx hb dL_law_1291 ?_
  refine gx_top (v := 3) (by decide) ?_
  refine va_sld (i := 3) hx hb hX hbl hbA hw.2 (gx_in rfl (by decide) (by decide)) dL_law_1292 ?_
  refine gx_top (v := xs 3) rfl ?_
  refine lv_aload_n hx hb dL_law_1293 rfl (lv_at hl 4 rfl) ?_
  refine lv_iload hx hb dL_law_1294 (lv_at hl 0 rfl) ?_
  refine lv_iconst (v := 4) hx hb dL_law_1296 (by decide) ?_
  refine lv_iadd hx hb dL_law_1297 ?_
  refine gx_top (v := 4) (by decide) ?_
  refine va_sld (i := 4) hx hb hX hbl hbA hw.2 (gx_in rfl (by decide) (by decide)) dL_law_1298 ?_
  refine gx_top (v := xs 4) rfl ?_
  refine gx_cVi (As := [.int (xs 1), .int (xs 2), .int (xs 3), .int (xs 4)]) (rest := [.int (-1)]) S hK hA hw (c_m_ways l (E := E) (σ_1) (τ_1) (xs 1) (xs 2) (xs 3) (xs 4) (fun c9 k9 h9 => (hs_1 c9 k9 h9).trans (gs0_hi h9))) cw_L_152 t_199 cl_13 ⟨Nat.le_of_ble_eq_true rfl, Nat.le_of_ble_eq_true rfl⟩ rfl hl.1 rfl (Nat.le_of_ble_eq_true rfl) ⟨Nat.le_of_ble_eq_true rfl, Nat.le_of_ble_eq_true rfl⟩ dL_law_1299 (fun r_2 σ_2 τ_2 H locs hp hw => ?_)
  obtain ⟨er_2, -, -⟩ := hp
  obtain rfl := er_2.symm
  refine lv_icmp_eq (tgt := 1745) hx hb dL_law_1302 (by decide) (fun _ => ?_) (fun h => absurd rfl h)
  refine W.widen (k := 235) (n := 20159) (by omega) (by omega) ?_
  exact kk _ _ _ _ _ hw (lv_sub hl [0, 1, 2, 3, 4] rfl)
set_option maxHeartbeats 4000000 in
set_option maxRecDepth 100000 in
theorem lc_29 (l : Launch) (hl9 : l.stackTraces = false) (S : CallFix P9 m9 C9 cL_law 8 s #[Value.ref b] gx_G RL) (hK : gx_K E s) (hT9 : gx_T s) (hA : gx_Ok gx_tb 0 E s) (hX : va_X b 6 xs s s.heap) (hbl : b < s.heap.size) (hbA : ¬ gx_A 0 E.2.2 s.heap.size b) (hw : gx_W gx_tb 0 E s gs0 gt0 H locs) (hl : lv_has ls 8 [(4, .int 0), (3, .ref (E.2.2 + 233)), (2, .ref (E.2.2 + 199)), (1, .ref (E.2.2 + 0)), (0, .ref b)]) (kk : ∀ (σ : gI) (τ : gJ) (H : Heap) (locs : List Loc) (ls : Array Slot), gx_W gx_tb 0 E s σ τ H locs → lv_has ls 8 [(4, .int 0), (3, .ref (E.2.2 + 233)), (2, .ref (E.2.2 + 199)), (1, .ref (E.2.2 + 0)), (0, .ref b)] → W P9 l e9 room_1 s m9 #[Value.ref b] below meth C9 H locs 235 20159 Q (F0 m9 1745 ls [])) : W P9 l e9 room_1 s m9 #[Value.ref b] below meth C9 H locs 234 20153 Q (F0 m9 1307 ls []) := by
  have hx := S.1
  have hb := S.2.1
  refine lv_aload_n hx hb dL_law_1307 rfl (lv_at hl 3 rfl) ?_
  refine lv_aload_n hx hb dL_law_1308 rfl (lv_at hl 4 rfl) ?_
  refine lv_iload hx hb dL_law_1309 (lv_at hl 0 rfl) ?_
  refine lv_iconst (v := 1) hx hb dL_law_1311 (by decide) ?_
  refine lv_iadd hx hb dL_law_1312 ?_
  refine gx_top (v := 1) (by decide) ?_
  refine va_sld (i := 1) hx hb hX hbl hbA hw.2 (gx_in rfl (by decide) (by decide)) dL_law_1313 ?_
  refine gx_top (v := xs 1) rfl ?_
  refine lv_aload_n hx hb dL_law_1314 rfl (lv_at hl 4 rfl) ?_
  refine lv_iload hx hb dL_law_1315 (lv_at hl 0 rfl) ?_
  refine lv_iconst (v := 2) hx hb dL_law_1317 (by decide) ?_
  refine lv_iadd hx hb dL_law_1318 ?_
  refine gx_top (v := 2) (by decide) ?_
  refine va_sld (i := 2) hx hb hX hbl hbA hw.2 (gx_in rfl (by decide) (by decide)) dL_law_1319 ?_
  refine gx_top (v := xs 2) rfl ?_
  refine lv_aload_n hx hb dL_law_1320 rfl (lv_at hl 4 rfl) ?_
  refine lv_iload hx hb dL_law_1321 (lv_at hl 0 rfl) ?_
  refine lv_iconst (v := 3) hx hb dL_law_1323 (by decide) ?_
  refine lv_iadd hx hb dL_law_1324 ?_
  refine gx_top (v := 3) (by decide) ?_
  refine va_sld (i := 3) hx hb hX hbl hbA hw.2 (gx_in rfl (by decide) (by decide)) dL_law_1325 ?_
  refine gx_top (v := xs 3) rfl ?_
  refine lv_aload_n hx hb dL_law_1326 rfl (lv_at hl 4 rfl) ?_
  refine lv_iload hx hb dL_law_1327 (lv_at hl 0 rfl) ?_
  refine lv_iconst (v := 4) hx hb dL_law_1329 (by decide) ?_
  refine lv_iadd hx hb dL_law_1330 ?_
  refine gx_top (v := 4) (by decide) ?_
  refine va_sld (i := 4) hx hb hX hbl hbA hw.2 (gx_in rfl (by decide) (by decide)) dL_law_1331 ?_
  refine gx_top (v := xs 4) rfl ?_
  refine lv_aload_n hx hb dL_law_1332 rfl (lv_at hl 4 rfl) ?_
  refine lv_iload hx hb dL_law_1333 (lv_at hl 0 rfl) ?_
  refine lv_iconst (v := 5) hx hb dL_law_1335 (by decide) ?_
  refine lv_iadd hx hb dL_law_1336 ?_
  refine gx_top (v := 5) (by decide) ?_
  refine va_sld (i := 5) hx hb hX hbl hbA hw.2 (gx_in rfl (by decide) (by decide)) dL_law_1337 ?_
  refine gx_top (v := xs 5) rfl ?_
  refine gx_cVi (As := [.int (xs 1), .int (xs 2), .int (xs 3), .int (xs 4), .int (xs 5)]) (rest := []) S hK hA hw (c_x_duel l (E := E) (xs 1) (xs 2) (xs 3) (xs 4) (xs 5)) cw_L_153 t_0 cl_12 ⟨Nat.le_of_ble_eq_true rfl, Nat.le_of_ble_eq_true rfl⟩ rfl hl.1 rfl (Nat.le_of_ble_eq_true rfl) ⟨Nat.le_of_ble_eq_true rfl, Nat.le_of_ble_eq_true rfl⟩ dL_law_1338 (fun r_1 σ_1 τ_1 H locs hp hw => ?_)
  obtain ⟨er_1, hs_1, -⟩ := hp
  obtain rfl := er_1.symm
  refine lv_aload_n hx hb dL_law_1341 rfl (lv_at hl 2 rfl) ?_
  refine lv_aload_n hx hb dL_law_1342 rfl (lv_at hl 4 rfl) ?_
  refine lv_iload hx hb dL_law_1343 (lv_at hl 0 rfl) ?_
  refine lv_iconst (v := 1) hx hb dL_law_1345 (by decide) ?_
  refine lv_iadd hx hb dL_law_1346 ?_
  refine gx_top (v := 1) (by decide) ?_
  refine va_sld (i := 1) hx hb hX hbl hbA hw.2 (gx_in rfl (by decide) (by decide)) dL_law_1347 ?_
  refine gx_top (v := xs 1) rfl ?_
  refine lv_aload_n hx hb dL_law_1348 rfl (lv_at hl 4 rfl) ?_
  refine lv_iload hx hb dL_law_1349 (lv_at hl 0 rfl) ?_
  refine lv_iconst (v := 2) hx hb dL_law_1351 (by decide) ?_
  refine lv_iadd hx hb dL_law_1352 ?_
  refine gx_top (v := 2) (by decide) ?_
  refine va_sld (i := 2) hx hb hX hbl hbA hw.2 (gx_in rfl (by decide) (by decide)) dL_law_1353 ?_
  refine gx_top (v := xs 2) rfl ?_
  refine lv_aload_n hx hb dL_law_1354 rfl (lv_at hl 4 rfl) ?_
  refine lv_iload hx hb dL_law_1355 (lv_at hl 0 rfl) ?_
  refine lv_iconst (v := 3) hx hb dL_law_1357 (by decide) ?_
  refine lv_iadd hx hb dL_law_1358 ?_
  refine gx_top (v := 3) (by decide) ?_
  refine va_sld (i := 3) hx hb hX hbl hbA hw.2 (gx_in rfl (by decide) (by decide)) dL_law_1359 ?_
  refine gx_top (v := xs 3) rfl ?_
  refine lv_aload_n hx hb dL_law_1360 rfl (lv_at hl 4 rfl) ?_
  refine lv_iload hx hb dL_law_1361 (lv_at hl 0 rfl) ?_
  refine lv_iconst (v := 4) hx hb dL_law_1363 (by decide) ?_
  refine lv_iadd hx hb dL_law_1364 ?_
  refine gx_top (v := 4) (by decide) ?_
  refine va_sld (i := 4) hx hb hX hbl hbA hw.2 (gx_in rfl (by decide) (by decide)) dL_law_1365 ?_
  refine gx_top (v := xs 4) rfl ?_
  refine lv_aload_n hx hb dL_law_1366 rfl (lv_at hl 4 rfl) ?_
  refine lv_iload hx hb dL_law_1367 (lv_at hl 0 rfl) ?_
  refine lv_iconst (v := 5) hx hb dL_law_1369 (by decide) ?_
  refine lv_iadd hx hb dL_law_1370 ?_
  refine gx_top (v := 5) (by decide) ?_
  refine va_sld (i := 5) hx hb hX hbl hbA hw.2 (gx_in rfl (by decide) (by decide)) dL_law_1371 ?_
  refine gx_top (v := xs 5) rfl ?_
  refine gx_cVi (As := [.int (xs 1), .int (xs 2), .int (xs 3), .int (xs 4), .int (xs 5)]) (rest := [.int (-1)]) S hK hA hw (c_m_duel l (E := E) (σ_1) (τ_1) (xs 1) (xs 2) (xs 3) (xs 4) (xs 5) (fun c9 k9 h9 => (hs_1 c9 k9 h9).trans (gs0_hi h9))) cw_L_156 t_199 cl_13 ⟨Nat.le_of_ble_eq_true rfl, Nat.le_of_ble_eq_true rfl⟩ rfl hl.1 rfl (Nat.le_of_ble_eq_true rfl) ⟨Nat.le_of_ble_eq_true rfl, Nat.le_of_ble_eq_true rfl⟩ dL_law_1372 (fun r_2 σ_2 τ_2 H locs hp hw => ?_)
  obtain ⟨er_2, -, -⟩ := hp
  obtain rfl := er_2.symm
  refine lv_icmp_eq (tgt := 1745) hx hb dL_law_1375 (by decide) (fun _ => ?_) (fun h => absurd rfl h)
  refine W.widen (k := 235) (n := 20159) (by omega) (by omega) ?_
  exact kk _ _ _ _ _ hw (lv_sub hl [0, 1, 2, 3, 4] rfl)
set_option maxHeartbeats 4000000 in
set_option maxRecDepth 100000 in
theorem lc_30 (l : Launch) (hl9 : l.stackTraces = false) (S : CallFix P9 m9 C9 cL_law 8 s #[Value.ref b] gx_G RL) (hK : gx_K E s) (hT9 : gx_T s) (hA : gx_Ok gx_tb 0 E s) (hX : va_X b 6 xs s s.heap) (hbl : b < s.heap.size) (hbA : ¬ gx_A 0 E.2.2 s.heap.size b) (hw : gx_W gx_tb 0 E s gs0 gt0 H locs) (hl : lv_has ls 8 [(4, .int 0), (3, .ref (E.2.2 + 233)), (2, .ref (E.2.2 + 199)), (1, .ref (E.2.2 + 0)), (0, .ref b)]) (kk : ∀ (σ : gI) (τ : gJ) (H : Heap) (locs : List Loc) (ls : Array Slot), gx_W gx_tb 0 E s σ τ H locs → lv_has ls 8 [(4, .int 0), (3, .ref (E.2.2 + 233)), (2, .ref (E.2.2 + 199)), (1, .ref (E.2.2 + 0)), (0, .ref b)] → W P9 l e9 room_1 s m9 #[Value.ref b] below meth C9 H locs 235 20159 Q (F0 m9 1745 ls [])) : W P9 l e9 room_1 s m9 #[Value.ref b] below meth C9 H locs 234 20153 Q (F0 m9 1380 ls []) := by
  have hx := S.1
  have hb := S.2.1
  refine lv_aload_n hx hb dL_law_1380 rfl (lv_at hl 3 rfl) ?_
  refine lv_aload_n hx hb dL_law_1381 rfl (lv_at hl 4 rfl) ?_
  refine lv_iload hx hb dL_law_1382 (lv_at hl 0 rfl) ?_
  refine lv_iconst (v := 1) hx hb dL_law_1384 (by decide) ?_
  refine lv_iadd hx hb dL_law_1385 ?_
  refine gx_top (v := 1) (by decide) ?_
  refine va_sld (i := 1) hx hb hX hbl hbA hw.2 (gx_in rfl (by decide) (by decide)) dL_law_1386 ?_
  refine gx_top (v := xs 1) rfl ?_
  refine lv_aload_n hx hb dL_law_1387 rfl (lv_at hl 4 rfl) ?_
  refine lv_iload hx hb dL_law_1388 (lv_at hl 0 rfl) ?_
  refine lv_iconst (v := 2) hx hb dL_law_1390 (by decide) ?_
  refine lv_iadd hx hb dL_law_1391 ?_
  refine gx_top (v := 2) (by decide) ?_
  refine va_sld (i := 2) hx hb hX hbl hbA hw.2 (gx_in rfl (by decide) (by decide)) dL_law_1392 ?_
  refine gx_top (v := xs 2) rfl ?_
  refine lv_aload_n hx hb dL_law_1393 rfl (lv_at hl 4 rfl) ?_
  refine lv_iload hx hb dL_law_1394 (lv_at hl 0 rfl) ?_
  refine lv_iconst (v := 3) hx hb dL_law_1396 (by decide) ?_
  refine lv_iadd hx hb dL_law_1397 ?_
  refine gx_top (v := 3) (by decide) ?_
  refine va_sld (i := 3) hx hb hX hbl hbA hw.2 (gx_in rfl (by decide) (by decide)) dL_law_1398 ?_
  refine gx_top (v := xs 3) rfl ?_
  refine gx_cVi (As := [.int (xs 1), .int (xs 2), .int (xs 3)]) (rest := []) S hK hA hw (c_x_cork l (E := E) (xs 1) (xs 2) (xs 3)) cw_L_157 t_0 cl_12 ⟨Nat.le_of_ble_eq_true rfl, Nat.le_of_ble_eq_true rfl⟩ rfl hl.1 rfl (Nat.le_of_ble_eq_true rfl) ⟨Nat.le_of_ble_eq_true rfl, Nat.le_of_ble_eq_true rfl⟩ dL_law_1399 (fun r_1 σ_1 τ_1 H locs hp hw => ?_)
  obtain ⟨er_1, hs_1, -⟩ := hp
  obtain rfl := er_1.symm
  refine lv_aload_n hx hb dL_law_1402 rfl (lv_at hl 2 rfl) ?_
  refine lv_aload_n hx hb dL_law_1403 rfl (lv_at hl 4 rfl) ?_
  refine lv_iload hx hb dL_law_1404 (lv_at hl 0 rfl) ?_
  refine lv_iconst (v := 1) hx hb dL_law_1406 (by decide) ?_
  refine lv_iadd hx hb dL_law_1407 ?_
  refine gx_top (v := 1) (by decide) ?_
  refine va_sld (i := 1) hx hb hX hbl hbA hw.2 (gx_in rfl (by decide) (by decide)) dL_law_1408 ?_
  refine gx_top (v := xs 1) rfl ?_
  refine lv_aload_n hx hb dL_law_1409 rfl (lv_at hl 4 rfl) ?_
  refine lv_iload hx hb dL_law_1410 (lv_at hl 0 rfl) ?_
  refine lv_iconst (v := 2) hx hb dL_law_1412 (by decide) ?_
  refine lv_iadd hx hb dL_law_1413 ?_
  refine gx_top (v := 2) (by decide) ?_
  refine va_sld (i := 2) hx hb hX hbl hbA hw.2 (gx_in rfl (by decide) (by decide)) dL_law_1414 ?_
  refine gx_top (v := xs 2) rfl ?_
  refine lv_aload_n hx hb dL_law_1415 rfl (lv_at hl 4 rfl) ?_
  refine lv_iload hx hb dL_law_1416 (lv_at hl 0 rfl) ?_
  refine lv_iconst (v := 3) hx hb dL_law_1418 (by decide) ?_
  refine lv_iadd hx hb dL_law_1419 ?_
  refine gx_top (v := 3) (by decide) ?_
  refine va_sld (i := 3) hx hb hX hbl hbA hw.2 (gx_in rfl (by decide) (by decide)) dL_law_1420 ?_
  refine gx_top (v := xs 3) rfl ?_
  refine gx_cVi (As := [.int (xs 1), .int (xs 2), .int (xs 3)]) (rest := [.int (-1)]) S hK hA hw (c_m_cork l (E := E) (σ_1) (τ_1) (xs 1) (xs 2) (xs 3) (fun c9 k9 h9 => (hs_1 c9 k9 h9).trans (gs0_hi h9))) cw_L_160 t_199 cl_13 ⟨Nat.le_of_ble_eq_true rfl, Nat.le_of_ble_eq_true rfl⟩ rfl hl.1 rfl (Nat.le_of_ble_eq_true rfl) ⟨Nat.le_of_ble_eq_true rfl, Nat.le_of_ble_eq_true rfl⟩ dL_law_1421 (fun r_2 σ_2 τ_2 H locs hp hw => ?_)
  obtain ⟨er_2, -, -⟩ := hp
  obtain rfl := er_2.symm
  refine lv_icmp_eq (tgt := 1745) hx hb dL_law_1424 (by decide) (fun _ => ?_) (fun h => absurd rfl h)
  refine W.widen (k := 235) (n := 20159) (by omega) (by omega) ?_
  exact kk _ _ _ _ _ hw (lv_sub hl [0, 1, 2, 3, 4] rfl)
end LC26
