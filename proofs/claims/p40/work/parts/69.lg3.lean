section LG31
variable {P9 : Program} {e9 : Env} {s : State} {m9 : MethodId} {below : List Frame} {meth : Method} {C9 : Code} {E : gE} {b L n cells slots : Nat} {xs : Nat → Int32} {H : Heap} {locs : List Loc} {Q : State → Prop} {ls : Array Slot} {σ : gI} {τ : gJ} {Z : gI → gJ → Prop}
set_option maxHeartbeats 4000000 in
set_option maxRecDepth 100000 in
theorem lc_31 (l : Launch) (hl9 : l.stackTraces = false) (S : CallFix P9 m9 C9 cL_law 8 s #[Value.ref b] gx_G RL) (hK : gx_K E s) (hT9 : gx_T s) (hA : gx_Ok gx_tb 0 E s) (hX : va_X b L xs s s.heap) (hbl : b < s.heap.size) (hbA : ¬ gx_A 0 E.2.2 s.heap.size b) (N : Nat) (hN : 4294967296 ≤ N) (hL : L ≤ 3072) (hn : n + 6 ≤ L) (hc : cells + 60 ≤ 601024) (hs : slots + 1000 ≤ 7293034) (hw : gx_W gx_tb 0 E s σ τ H locs) (hl : lv_has ls 8 [(4, .int (nI n)), (3, .ref (E.2.2 + 233)), (2, .ref (E.2.2 + 199)), (1, .ref (E.2.2 + 0)), (0, .ref b)]) (kk : ∀ (σ : gI) (τ : gJ) (H : Heap) (locs : List Loc) (ls : Array Slot), Z σ τ → gx_W gx_tb 0 E s σ τ H locs → lv_has ls 8 [(4, .int (nI n)), (3, .ref (E.2.2 + 233)), (2, .ref (E.2.2 + 199)), (1, .ref (E.2.2 + 0)), (0, .ref b)] → W P9 l e9 room_1 s m9 #[Value.ref b] below meth C9 H locs (cells + 60) (slots + 1000) Q (F0 m9 1662 ls [])) (hq : okp (fun r1 σ1 τ1 => okp (fun r2 σ2 τ2 => Z σ2 τ2) (B_X12_forget_0 N σ1 τ1)) (B_X11_forget_0 N σ τ)) : W P9 l e9 room_1 s m9 #[Value.ref b] below meth C9 H locs cells slots Q (F0 m9 1373 ls []) := by
  have hx := S.1
  have hb := S.2.1
  obtain ⟨r_1, σ_1, τ_1, q_1, h_1⟩ := hq
  obtain ⟨r_2, σ_2, τ_2, q_2, hZ⟩ := h_1
  refine lv_aload_n hx hb dL_law_1373 rfl (lv_at hl 3 rfl) ?_
  refine gx_cVi (As := []) (rest := []) S hK hA hw (c_X11_forget l (E := E) N σ τ q_1) cw_L_158 t_0 cl_12 ⟨Nat.le_of_ble_eq_true rfl, Nat.le_of_ble_eq_true rfl⟩ rfl hl.1 rfl (Nat.le_of_ble_eq_true rfl) ⟨by show cells + 0 ≤ 601024; omega, by show slots + 0 ≤ 7293034; omega⟩ dL_law_1374 (fun r9 σ9 τ9 H locs hp hw => ?_)
  obtain ⟨rfl, rfl, rfl⟩ := hp
  refine lv_pop hx hb dL_law_1377 rfl ?_
  refine lv_aload_n hx hb dL_law_1378 rfl (lv_at hl 2 rfl) ?_
  refine gx_cVi (As := []) (rest := []) S hK hA hw (c_X12_forget l (E := E) N σ_1 τ_1 q_2) cw_L_161 t_199 cl_13 ⟨Nat.le_of_ble_eq_true rfl, Nat.le_of_ble_eq_true rfl⟩ rfl hl.1 rfl (Nat.le_of_ble_eq_true rfl) ⟨by show cells + 0 ≤ 601024; omega, by show slots + 0 ≤ 7293034; omega⟩ dL_law_1379 (fun r9 σ9 τ9 H locs hp hw => ?_)
  obtain ⟨rfl, rfl, rfl⟩ := hp
  refine lv_pop hx hb dL_law_1382 rfl ?_
  refine lv_goto (tgt := 1662) hx hb dL_law_1383 (by decide) ?_
  refine W.widen (k := cells + 60) (n := slots + 1000) (by omega) (by omega) ?_
  exact kk _ _ _ _ _ hZ hw (lv_sub hl [0, 1, 2, 3, 4] rfl)
set_option maxHeartbeats 4000000 in
set_option maxRecDepth 100000 in
theorem lc_32 (l : Launch) (hl9 : l.stackTraces = false) (S : CallFix P9 m9 C9 cL_law 8 s #[Value.ref b] gx_G RL) (hK : gx_K E s) (hT9 : gx_T s) (hA : gx_Ok gx_tb 0 E s) (hX : va_X b L xs s s.heap) (hbl : b < s.heap.size) (hbA : ¬ gx_A 0 E.2.2 s.heap.size b) (N : Nat) (hN : 4294967296 ≤ N) (hL : L ≤ 3072) (hn : n + 6 ≤ L) (hc : cells + 60 ≤ 601024) (hs : slots + 1000 ≤ 7293034) (hw : gx_W gx_tb 0 E s σ τ H locs) (hl : lv_has ls 8 [(4, .int (nI n)), (3, .ref (E.2.2 + 233)), (2, .ref (E.2.2 + 199)), (1, .ref (E.2.2 + 0)), (0, .ref b)]) (kk : ∀ (σ : gI) (τ : gJ) (H : Heap) (locs : List Loc) (ls : Array Slot), Z σ τ → gx_W gx_tb 0 E s σ τ H locs → lv_has ls 8 [(4, .int (nI n)), (3, .ref (E.2.2 + 233)), (2, .ref (E.2.2 + 199)), (1, .ref (E.2.2 + 0)), (0, .ref b)] → W P9 l e9 room_1 s m9 #[Value.ref b] below meth C9 H locs (cells + 60) (slots + 1000) Q (F0 m9 1662 ls [])) (hq : okp (fun r1 σ1 τ1 => okp (fun r2 σ2 τ2 => Z σ2 τ2) (B_X12_maps_0 N σ1 τ1)) (B_X11_maps_0 N σ τ)) : W P9 l e9 room_1 s m9 #[Value.ref b] below meth C9 H locs cells slots Q (F0 m9 1386 ls []) := by
  have hx := S.1
  have hb := S.2.1
  obtain ⟨r_1, σ_1, τ_1, q_1, h_1⟩ := hq
  obtain ⟨r_2, σ_2, τ_2, q_2, hZ⟩ := h_1
  refine lv_aload_n hx hb dL_law_1386 rfl (lv_at hl 3 rfl) ?_
  refine gx_cVi (As := []) (rest := []) S hK hA hw (c_X11_maps l (E := E) N σ τ q_1) cw_L_162 t_0 cl_12 ⟨Nat.le_of_ble_eq_true rfl, Nat.le_of_ble_eq_true rfl⟩ rfl hl.1 rfl (Nat.le_of_ble_eq_true rfl) ⟨by show cells + 0 ≤ 601024; omega, by show slots + 0 ≤ 7293034; omega⟩ dL_law_1387 (fun r9 σ9 τ9 H locs hp hw => ?_)
  obtain ⟨rfl, rfl, rfl⟩ := hp
  refine lv_pop hx hb dL_law_1390 rfl ?_
  refine lv_aload_n hx hb dL_law_1391 rfl (lv_at hl 2 rfl) ?_
  refine gx_cVi (As := []) (rest := []) S hK hA hw (c_X12_maps l (E := E) N σ_1 τ_1 q_2) cw_L_165 t_199 cl_13 ⟨Nat.le_of_ble_eq_true rfl, Nat.le_of_ble_eq_true rfl⟩ rfl hl.1 rfl (Nat.le_of_ble_eq_true rfl) ⟨by show cells + 0 ≤ 601024; omega, by show slots + 0 ≤ 7293034; omega⟩ dL_law_1392 (fun r9 σ9 τ9 H locs hp hw => ?_)
  obtain ⟨rfl, rfl, rfl⟩ := hp
  refine lv_pop hx hb dL_law_1395 rfl ?_
  refine lv_goto (tgt := 1662) hx hb dL_law_1396 (by decide) ?_
  refine W.widen (k := cells + 60) (n := slots + 1000) (by omega) (by omega) ?_
  exact kk _ _ _ _ _ hZ hw (lv_sub hl [0, 1, 2, 3, 4] rfl)
set_option maxHeartbeats 4000000 in
set_option maxRecDepth 100000 in
theorem lc_33 (l : Launch) (hl9 : l.stackTraces = false) (S : CallFix P9 m9 C9 cL_law 8 s #[Value.ref b] gx_G RL) (hK : gx_K E s) (hT9 : gx_T s) (hA : gx_Ok gx_tb 0 E s) (hX : va_X b L xs s s.heap) (hbl : b < s.heap.size) (hbA : ¬ gx_A 0 E.2.2 s.heap.size b) (N : Nat) (hN : 4294967296 ≤ N) (hL : L ≤ 3072) (hn : n + 6 ≤ L) (hc : cells + 60 ≤ 601024) (hs : slots + 1000 ≤ 7293034) (hw : gx_W gx_tb 0 E s σ τ H locs) (hl : lv_has ls 8 [(4, .int (nI n)), (3, .ref (E.2.2 + 233)), (2, .ref (E.2.2 + 199)), (1, .ref (E.2.2 + 0)), (0, .ref b)]) (kk : ∀ (σ : gI) (τ : gJ) (H : Heap) (locs : List Loc) (ls : Array Slot), Z σ τ → gx_W gx_tb 0 E s σ τ H locs → lv_has ls 8 [(4, .int (nI n)), (3, .ref (E.2.2 + 233)), (2, .ref (E.2.2 + 199)), (1, .ref (E.2.2 + 0)), (0, .ref b)] → W P9 l e9 room_1 s m9 #[Value.ref b] below meth C9 H locs (cells + 60) (slots + 1000) Q (F0 m9 1662 ls [])) (hq : okp (fun r1 σ1 τ1 => okp (fun r2 σ2 τ2 => Z σ2 τ2) (B_X12_next_0 N σ1 τ1 (xs (n + 1)))) (B_X11_next_0 N σ τ (xs (n + 1)))) : W P9 l e9 room_1 s m9 #[Value.ref b] below meth C9 H locs cells slots Q (F0 m9 1399 ls []) := by
  have hx := S.1
  have hb := S.2.1
  obtain ⟨r_1, σ_1, τ_1, q_1, h_1⟩ := hq
  obtain ⟨r_2, σ_2, τ_2, q_2, hZ⟩ := h_1
  refine lv_aload_n hx hb dL_law_1399 rfl (lv_at hl 3 rfl) ?_
  refine lv_aload_n hx hb dL_law_1400 rfl (lv_at hl 4 rfl) ?_
  refine lv_iload hx hb dL_law_1401 (lv_at hl 0 rfl) ?_
  refine lv_iconst (v := 1) hx hb dL_law_1403 (by decide) ?_
  refine lv_iadd hx hb dL_law_1404 ?_
  refine gx_top (v := nI (n + 1)) (by rw [show (1 : Int32) = nI 1 from rfl, nI_add]) ?_
  refine va_sld (i := nI (n + 1)) hx hb hX hbl hbA hw.2 (vp_in_nI (by omega) (by omega)) dL_law_1405 ?_
  refine gx_top (v := xs (n + 1)) (by rw [nI_clamp (by omega)]) ?_
  refine gx_cVi (As := [.int (xs (n + 1))]) (rest := []) S hK hA hw (c_X11_next l (E := E) N σ τ (xs (n + 1)) q_1) cw_L_166 t_0 cl_12 ⟨Nat.le_of_ble_eq_true rfl, Nat.le_of_ble_eq_true rfl⟩ rfl hl.1 rfl (Nat.le_of_ble_eq_true rfl) ⟨by show cells + 0 ≤ 601024; omega, by show slots + 0 ≤ 7293034; omega⟩ dL_law_1406 (fun r9 σ9 τ9 H locs hp hw => ?_)
  obtain ⟨rfl, rfl, rfl⟩ := hp
  refine lv_pop hx hb dL_law_1409 rfl ?_
  refine lv_aload_n hx hb dL_law_1410 rfl (lv_at hl 2 rfl) ?_
  refine lv_aload_n hx hb dL_law_1411 rfl (lv_at hl 4 rfl) ?_
  refine lv_iload hx hb dL_law_1412 (lv_at hl 0 rfl) ?_
  refine lv_iconst (v := 1) hx hb dL_law_1414 (by decide) ?_
  refine lv_iadd hx hb dL_law_1415 ?_
  refine gx_top (v := nI (n + 1)) (by rw [show (1 : Int32) = nI 1 from rfl, nI_add]) ?_
  refine va_sld (i := nI (n + 1)) hx hb hX hbl hbA hw.2 (vp_in_nI (by omega) (by omega)) dL_law_1416 ?_
  refine gx_top (v := xs (n + 1)) (by rw [nI_clamp (by omega)]) ?_
  refine gx_cVi (As := [.int (xs (n + 1))]) (rest := []) S hK hA hw (c_X12_next l (E := E) N σ_1 τ_1 (xs (n + 1)) q_2) cw_L_169 t_199 cl_13 ⟨Nat.le_of_ble_eq_true rfl, Nat.le_of_ble_eq_true rfl⟩ rfl hl.1 rfl (Nat.le_of_ble_eq_true rfl) ⟨by show cells + 0 ≤ 601024; omega, by show slots + 0 ≤ 7293034; omega⟩ dL_law_1417 (fun r9 σ9 τ9 H locs hp hw => ?_)
  obtain ⟨rfl, rfl, rfl⟩ := hp
  refine lv_pop hx hb dL_law_1420 rfl ?_
  refine lv_goto (tgt := 1662) hx hb dL_law_1421 (by decide) ?_
  refine W.widen (k := cells + 60) (n := slots + 1000) (by omega) (by omega) ?_
  exact kk _ _ _ _ _ hZ hw (lv_sub hl [0, 1, 2, 3, 4] rfl)
set_option maxHeartbeats 4000000 in
set_option maxRecDepth 100000 in
theorem lc_34 (l : Launch) (hl9 : l.stackTraces = false) (S : CallFix P9 m9 C9 cL_law 8 s #[Value.ref b] gx_G RL) (hK : gx_K E s) (hT9 : gx_T s) (hA : gx_Ok gx_tb 0 E s) (hX : va_X b L xs s s.heap) (hbl : b < s.heap.size) (hbA : ¬ gx_A 0 E.2.2 s.heap.size b) (N : Nat) (hN : 4294967296 ≤ N) (hL : L ≤ 3072) (hn : n + 6 ≤ L) (hc : cells + 60 ≤ 601024) (hs : slots + 1000 ≤ 7293034) (hw : gx_W gx_tb 0 E s σ τ H locs) (hl : lv_has ls 8 [(4, .int (nI n)), (3, .ref (E.2.2 + 233)), (2, .ref (E.2.2 + 199)), (1, .ref (E.2.2 + 0)), (0, .ref b)]) (kk : ∀ (σ : gI) (τ : gJ) (H : Heap) (locs : List Loc) (ls : Array Slot), Z σ τ → gx_W gx_tb 0 E s σ τ H locs → lv_has ls 8 [(4, .int (nI n)), (3, .ref (E.2.2 + 233)), (2, .ref (E.2.2 + 199)), (1, .ref (E.2.2 + 0)), (0, .ref b)] → W P9 l e9 room_1 s m9 #[Value.ref b] below meth C9 H locs (cells + 60) (slots + 1000) Q (F0 m9 1662 ls [])) (hq : okp (fun r1 σ1 τ1 => okp (fun r2 σ2 τ2 => Z σ2 τ2) (B_X12_odds_0 N σ1 τ1 (xs (n + 1)) (xs (n + 2)) (xs (n + 3)))) (B_X11_odds_0 N σ τ (xs (n + 1)) (xs (n + 2)) (xs (n + 3)))) : W P9 l e9 room_1 s m9 #[Value.ref b] below meth C9 H locs cells slots Q (F0 m9 1424 ls []) := by
  have hx := S.1
  have hb := S.2.1
  obtain ⟨r_1, σ_1, τ_1, q_1, h_1⟩ := hq
  obtain ⟨r_2, σ_2, τ_2, q_2, hZ⟩ := h_1
  refine lv_aload_n hx hb dL_law_1424 rfl (lv_at hl 3 rfl) ?_
  refine lv_aload_n hx hb dL_law_1425 rfl (lv_at hl 4 rfl) ?_
  refine lv_iload hx hb dL_law_1426 (lv_at hl 0 rfl) ?_
  refine lv_iconst (v := 1) hx hb dL_law_1428 (by decide) ?_
  refine lv_iadd hx hb dL_law_1429 ?_
  refine gx_top (v := nI (n + 1)) (by rw [show (1 : Int32) = nI 1 from rfl, nI_add]) ?_
  refine va_sld (i := nI (n + 1)) hx hb hX hbl hbA hw.2 (vp_in_nI (by omega) (by omega)) dL_law_1430 ?_
  refine gx_top (v := xs (n + 1)) (by rw [nI_clamp (by omega)]) ?_
  refine lv_aload_n hx hb dL_law_1431 rfl (lv_at hl 4 rfl) ?_
  refine lv_iload hx hb dL_law_1432 (lv_at hl 0 rfl) ?_
  refine lv_iconst (v := 2) hx hb dL_law_1434 (by decide) ?_
  refine lv_iadd hx hb dL_law_1435 ?_
  refine gx_top (v := nI (n + 2)) (by rw [show (2 : Int32) = nI 2 from rfl, nI_add]) ?_
  refine va_sld (i := nI (n + 2)) hx hb hX hbl hbA hw.2 (vp_in_nI (by omega) (by omega)) dL_law_1436 ?_
  refine gx_top (v := xs (n + 2)) (by rw [nI_clamp (by omega)]) ?_
  refine lv_aload_n hx hb dL_law_1437 rfl (lv_at hl 4 rfl) ?_
  refine lv_iload hx hb dL_law_1438 (lv_at hl 0 rfl) ?_
  refine lv_iconst (v := 3) hx hb dL_law_1440 (by decide) ?_
  refine lv_iadd hx hb dL_law_1441 ?_
  refine gx_top (v := nI (n + 3)) (by rw [show (3 : Int32) = nI 3 from rfl, nI_add]) ?_
  refine va_sld (i := nI (n + 3)) hx hb hX hbl hbA hw.2 (vp_in_nI (by omega) (by omega)) dL_law_1442 ?_
  refine gx_top (v := xs (n + 3)) (by rw [nI_clamp (by omega)]) ?_
  refine gx_cVi (As := [.int (xs (n + 1)), .int (xs (n + 2)), .int (xs (n + 3))]) (rest := []) S hK hA hw (c_X11_odds l (E := E) N σ τ (xs (n + 1)) (xs (n + 2)) (xs (n + 3)) q_1) cw_L_170 t_0 cl_12 ⟨Nat.le_of_ble_eq_true rfl, Nat.le_of_ble_eq_true rfl⟩ rfl hl.1 rfl (Nat.le_of_ble_eq_true rfl) ⟨by show cells + 0 ≤ 601024; omega, by show slots + 0 ≤ 7293034; omega⟩ dL_law_1443 (fun r9 σ9 τ9 H locs hp hw => ?_)
  obtain ⟨rfl, rfl, rfl⟩ := hp
  refine lv_pop hx hb dL_law_1446 rfl ?_
  refine lv_aload_n hx hb dL_law_1447 rfl (lv_at hl 2 rfl) ?_
  refine lv_aload_n hx hb dL_law_1448 rfl (lv_at hl 4 rfl) ?_
  refine lv_iload hx hb dL_law_1449 (lv_at hl 0 rfl) ?_
  refine lv_iconst (v := 1) hx hb dL_law_1451 (by decide) ?_
  refine lv_iadd hx hb dL_law_1452 ?_
  refine gx_top (v := nI (n + 1)) (by rw [show (1 : Int32) = nI 1 from rfl, nI_add]) ?_
  refine va_sld (i := nI (n + 1)) hx hb hX hbl hbA hw.2 (vp_in_nI (by omega) (by omega)) dL_law_1453 ?_
  refine gx_top (v := xs (n + 1)) (by rw [nI_clamp (by omega)]) ?_
  refine lv_aload_n hx hb dL_law_1454 rfl (lv_at hl 4 rfl) ?_
  refine lv_iload hx hb dL_law_1455 (lv_at hl 0 rfl) ?_
  refine lv_iconst (v := 2) hx hb dL_law_1457 (by decide) ?_
  refine lv_iadd hx hb dL_law_1458 ?_
  refine gx_top (v := nI (n + 2)) (by rw [show (2 : Int32) = nI 2 from rfl, nI_add]) ?_
  refine va_sld (i := nI (n + 2)) hx hb hX hbl hbA hw.2 (vp_in_nI (by omega) (by omega)) dL_law_1459 ?_
  refine gx_top (v := xs (n + 2)) (by rw [nI_clamp (by omega)]) ?_
  refine lv_aload_n hx hb dL_law_1460 rfl (lv_at hl 4 rfl) ?_
  refine lv_iload hx hb dL_law_1461 (lv_at hl 0 rfl) ?_
  refine lv_iconst (v := 3) hx hb dL_law_1463 (by decide) ?_
  refine lv_iadd hx hb dL_law_1464 ?_
  refine gx_top (v := nI (n + 3)) (by rw [show (3 : Int32) = nI 3 from rfl, nI_add]) ?_
  refine va_sld (i := nI (n + 3)) hx hb hX hbl hbA hw.2 (vp_in_nI (by omega) (by omega)) dL_law_1465 ?_
  refine gx_top (v := xs (n + 3)) (by rw [nI_clamp (by omega)]) ?_
  refine gx_cVi (As := [.int (xs (n + 1)), .int (xs (n + 2)), .int (xs (n + 3))]) (rest := []) S hK hA hw (c_X12_odds l (E := E) N σ_1 τ_1 (xs (n + 1)) (xs (n + 2)) (xs (n + 3)) q_2) cw_L_173 t_199 cl_13 ⟨Nat.le_of_ble_eq_true rfl, Nat.le_of_ble_eq_true rfl⟩ rfl hl.1 rfl (Nat.le_of_ble_eq_true rfl) ⟨by show cells + 0 ≤ 601024; omega, by show slots + 0 ≤ 7293034; omega⟩ dL_law_1466 (fun r9 σ9 τ9 H locs hp hw => ?_)
  obtain ⟨rfl, rfl, rfl⟩ := hp
  refine lv_pop hx hb dL_law_1469 rfl ?_
  refine lv_goto (tgt := 1662) hx hb dL_law_1470 (by decide) ?_
  refine W.widen (k := cells + 60) (n := slots + 1000) (by omega) (by omega) ?_
  exact kk _ _ _ _ _ hZ hw (lv_sub hl [0, 1, 2, 3, 4] rfl)
set_option maxHeartbeats 4000000 in
set_option maxRecDepth 100000 in
theorem lc_35 (l : Launch) (hl9 : l.stackTraces = false) (S : CallFix P9 m9 C9 cL_law 8 s #[Value.ref b] gx_G RL) (hK : gx_K E s) (hT9 : gx_T s) (hA : gx_Ok gx_tb 0 E s) (hX : va_X b L xs s s.heap) (hbl : b < s.heap.size) (hbA : ¬ gx_A 0 E.2.2 s.heap.size b) (N : Nat) (hN : 4294967296 ≤ N) (hL : L ≤ 3072) (hn : n + 6 ≤ L) (hc : cells + 60 ≤ 601024) (hs : slots + 1000 ≤ 7293034) (hw : gx_W gx_tb 0 E s σ τ H locs) (hl : lv_has ls 8 [(4, .int (nI n)), (3, .ref (E.2.2 + 233)), (2, .ref (E.2.2 + 199)), (1, .ref (E.2.2 + 0)), (0, .ref b)]) (kk : ∀ (σ : gI) (τ : gJ) (H : Heap) (locs : List Loc) (ls : Array Slot), Z σ τ → gx_W gx_tb 0 E s σ τ H locs → lv_has ls 8 [(4, .int (nI n)), (3, .ref (E.2.2 + 233)), (2, .ref (E.2.2 + 199)), (1, .ref (E.2.2 + 0)), (0, .ref b)] → W P9 l e9 room_1 s m9 #[Value.ref b] below meth C9 H locs (cells + 60) (slots + 1000) Q (F0 m9 1662 ls [])) (hq : okp (fun r1 σ1 τ1 => okp (fun r2 σ2 τ2 => Z σ2 τ2) (B_X12_marks_0 N σ1 τ1 (xs (n + 1)) (xs (n + 2)) (xs (n + 3)))) (B_X11_marks_0 N σ τ (xs (n + 1)) (xs (n + 2)) (xs (n + 3)))) : W P9 l e9 room_1 s m9 #[Value.ref b] below meth C9 H locs cells slots Q (F0 m9 1473 ls []) := by
  have hx := S.1
  have hb := S.2.1
  obtain ⟨r_1, σ_1, τ_1, q_1, h_1⟩ := hq
  obtain ⟨r_2, σ_2, τ_2, q_2, hZ⟩ := h_1
  refine lv_aload_n hx hb dL_law_1473 rfl (lv_at hl 3 rfl) ?_
  refine lv_aload_n hx hb dL_law_1474 rfl (lv_at hl 4 rfl) ?_
  refine lv_iload hx hb dL_law_1475 (lv_at hl 0 rfl) ?_
  refine lv_iconst (v := 1) hx hb dL_law_1477 (by decide) ?_
  refine lv_iadd hx hb dL_law_1478 ?_
  refine gx_top (v := nI (n + 1)) (by rw [show (1 : Int32) = nI 1 from rfl, nI_add]) ?_
  refine va_sld (i := nI (n + 1)) hx hb hX hbl hbA hw.2 (vp_in_nI (by omega) (by omega)) dL_law_1479 ?_
  refine gx_top (v := xs (n + 1)) (by rw [nI_clamp (by omega)]) ?_
  refine lv_aload_n hx hb dL_law_1480 rfl (lv_at hl 4 rfl) ?_
  refine lv_iload hx hb dL_law_1481 (lv_at hl 0 rfl) ?_
  refine lv_iconst (v := 2) hx hb dL_law_1483 (by decide) ?_
  refine lv_iadd hx hb dL_law_1484 ?_
  refine gx_top (v := nI (n + 2)) (by rw [show (2 : Int32) = nI 2 from rfl, nI_add]) ?_
  refine va_sld (i := nI (n + 2)) hx hb hX hbl hbA hw.2 (vp_in_nI (by omega) (by omega)) dL_law_1485 ?_
  refine gx_top (v := xs (n + 2)) (by rw [nI_clamp (by omega)]) ?_
  refine lv_aload_n hx hb dL_law_1486 rfl (lv_at hl 4 rfl) ?_
  refine lv_iload hx hb dL_law_1487 (lv_at hl 0 rfl) ?_
  refine lv_iconst (v := 3) hx hb dL_law_1489 (by decide) ?_
  refine lv_iadd hx hb dL_law_1490 ?_
  refine gx_top (v := nI (n + 3)) (by rw [show (3 : Int32) = nI 3 from rfl, nI_add]) ?_
  refine va_sld (i := nI (n + 3)) hx hb hX hbl hbA hw.2 (vp_in_nI (by omega) (by omega)) dL_law_1491 ?_
  refine gx_top (v := xs (n + 3)) (by rw [nI_clamp (by omega)]) ?_
  refine gx_cVi (As := [.int (xs (n + 1)), .int (xs (n + 2)), .int (xs (n + 3))]) (rest := []) S hK hA hw (c_X11_marks l (E := E) N σ τ (xs (n + 1)) (xs (n + 2)) (xs (n + 3)) q_1) cw_L_174 t_0 cl_12 ⟨Nat.le_of_ble_eq_true rfl, Nat.le_of_ble_eq_true rfl⟩ rfl hl.1 rfl (Nat.le_of_ble_eq_true rfl) ⟨by show cells + 0 ≤ 601024; omega, by show slots + 0 ≤ 7293034; omega⟩ dL_law_1492 (fun r9 σ9 τ9 H locs hp hw => ?_)
  obtain ⟨rfl, rfl, rfl⟩ := hp
  refine lv_pop hx hb dL_law_1495 rfl ?_
  refine lv_aload_n hx hb dL_law_1496 rfl (lv_at hl 2 rfl) ?_
  refine lv_aload_n hx hb dL_law_1497 rfl (lv_at hl 4 rfl) ?_
  refine lv_iload hx hb dL_law_1498 (lv_at hl 0 rfl) ?_
  refine lv_iconst (v := 1) hx hb dL_law_1500 (by decide) ?_
  refine lv_iadd hx hb dL_law_1501 ?_
  refine gx_top (v := nI (n + 1)) (by rw [show (1 : Int32) = nI 1 from rfl, nI_add]) ?_
  refine va_sld (i := nI (n + 1)) hx hb hX hbl hbA hw.2 (vp_in_nI (by omega) (by omega)) dL_law_1502 ?_
  refine gx_top (v := xs (n + 1)) (by rw [nI_clamp (by omega)]) ?_
  refine lv_aload_n hx hb dL_law_1503 rfl (lv_at hl 4 rfl) ?_
  refine lv_iload hx hb dL_law_1504 (lv_at hl 0 rfl) ?_
  refine lv_iconst (v := 2) hx hb dL_law_1506 (by decide) ?_
  refine lv_iadd hx hb dL_law_1507 ?_
  refine gx_top (v := nI (n + 2)) (by rw [show (2 : Int32) = nI 2 from rfl, nI_add]) ?_
  refine va_sld (i := nI (n + 2)) hx hb hX hbl hbA hw.2 (vp_in_nI (by omega) (by omega)) dL_law_1508 ?_
  refine gx_top (v := xs (n + 2)) (by rw [nI_clamp (by omega)]) ?_
  refine lv_aload_n hx hb dL_law_1509 rfl (lv_at hl 4 rfl) ?_
  refine lv_iload hx hb dL_law_1510 (lv_at hl 0 rfl) ?_
  refine lv_iconst (v := 3) hx hb dL_law_1512 (by decide) ?_
  refine lv_iadd hx hb dL_law_1513 ?_
  refine gx_top (v := nI (n + 3)) (by rw [show (3 : Int32) = nI 3 from rfl, nI_add]) ?_
  refine va_sld (i := nI (n + 3)) hx hb hX hbl hbA hw.2 (vp_in_nI (by omega) (by omega)) dL_law_1514 ?_
  refine gx_top (v := xs (n + 3)) (by rw [nI_clamp (by omega)]) ?_
  refine gx_cVi (As := [.int (xs (n + 1)), .int (xs (n + 2)), .int (xs (n + 3))]) (rest := []) S hK hA hw (c_X12_marks l (E := E) N σ_1 τ_1 (xs (n + 1)) (xs (n + 2)) (xs (n + 3)) q_2) cw_L_177 t_199 cl_13 ⟨Nat.le_of_ble_eq_true rfl, Nat.le_of_ble_eq_true rfl⟩ rfl hl.1 rfl (Nat.le_of_ble_eq_true rfl) ⟨by show cells + 0 ≤ 601024; omega, by show slots + 0 ≤ 7293034; omega⟩ dL_law_1515 (fun r9 σ9 τ9 H locs hp hw => ?_)
  obtain ⟨rfl, rfl, rfl⟩ := hp
  refine lv_pop hx hb dL_law_1518 rfl ?_
  refine lv_goto (tgt := 1662) hx hb dL_law_1519 (by decide) ?_
  refine W.widen (k := cells + 60) (n := slots + 1000) (by omega) (by omega) ?_
  exact kk _ _ _ _ _ hZ hw (lv_sub hl [0, 1, 2, 3, 4] rfl)
set_option maxHeartbeats 4000000 in
set_option maxRecDepth 100000 in
theorem lc_36 (l : Launch) (hl9 : l.stackTraces = false) (S : CallFix P9 m9 C9 cL_law 8 s #[Value.ref b] gx_G RL) (hK : gx_K E s) (hT9 : gx_T s) (hA : gx_Ok gx_tb 0 E s) (hX : va_X b L xs s s.heap) (hbl : b < s.heap.size) (hbA : ¬ gx_A 0 E.2.2 s.heap.size b) (N : Nat) (hN : 4294967296 ≤ N) (hL : L ≤ 3072) (hn : n + 6 ≤ L) (hc : cells + 60 ≤ 601024) (hs : slots + 1000 ≤ 7293034) (hw : gx_W gx_tb 0 E s σ τ H locs) (hl : lv_has ls 8 [(4, .int (nI n)), (3, .ref (E.2.2 + 233)), (2, .ref (E.2.2 + 199)), (1, .ref (E.2.2 + 0)), (0, .ref b)]) (kk : ∀ (σ : gI) (τ : gJ) (H : Heap) (locs : List Loc) (ls : Array Slot), Z σ τ → gx_W gx_tb 0 E s σ τ H locs → lv_has ls 8 [(4, .int (nI n)), (3, .ref (E.2.2 + 233)), (2, .ref (E.2.2 + 199)), (1, .ref (E.2.2 + 0)), (0, .ref b)] → W P9 l e9 room_1 s m9 #[Value.ref b] below meth C9 H locs (cells + 60) (slots + 1000) Q (F0 m9 1662 ls [])) (hq : okp (fun r1 σ1 τ1 => okp (fun r2 σ2 τ2 => Z σ2 τ2) (B_X12_order_0 N σ1 τ1 (xs (n + 1)) (xs (n + 2)))) (B_X11_order_0 N σ τ (xs (n + 1)) (xs (n + 2)))) : W P9 l e9 room_1 s m9 #[Value.ref b] below meth C9 H locs cells slots Q (F0 m9 1522 ls []) := by
  have hx := S.1
  have hb := S.2.1
  obtain ⟨r_1, σ_1, τ_1, q_1, h_1⟩ := hq
  obtain ⟨r_2, σ_2, τ_2, q_2, hZ⟩ := h_1
  refine lv_aload_n hx hb dL_law_1522 rfl (lv_at hl 3 rfl) ?_
  refine lv_aload_n hx hb dL_law_1523 rfl (lv_at hl 4 rfl) ?_
  refine lv_iload hx hb dL_law_1524 (lv_at hl 0 rfl) ?_
  refine lv_iconst (v := 1) hx hb dL_law_1526 (by decide) ?_
  refine lv_iadd hx hb dL_law_1527 ?_
  refine gx_top (v := nI (n + 1)) (by rw [show (1 : Int32) = nI 1 from rfl, nI_add]) ?_
  refine va_sld (i := nI (n + 1)) hx hb hX hbl hbA hw.2 (vp_in_nI (by omega) (by omega)) dL_law_1528 ?_
  refine gx_top (v := xs (n + 1)) (by rw [nI_clamp (by omega)]) ?_
  refine lv_aload_n hx hb dL_law_1529 rfl (lv_at hl 4 rfl) ?_
  refine lv_iload hx hb dL_law_1530 (lv_at hl 0 rfl) ?_
  refine lv_iconst (v := 2) hx hb dL_law_1532 (by decide) ?_
  refine lv_iadd hx hb dL_law_1533 ?_
  refine gx_top (v := nI (n + 2)) (by rw [show (2 : Int32) = nI 2 from rfl, nI_add]) ?_
  refine va_sld (i := nI (n + 2)) hx hb hX hbl hbA hw.2 (vp_in_nI (by omega) (by omega)) dL_law_1534 ?_
  refine gx_top (v := xs (n + 2)) (by rw [nI_clamp (by omega)]) ?_
  refine gx_cVi (As := [.int (xs (n + 1)), .int (xs (n + 2))]) (rest := []) S hK hA hw (c_X11_order l (E := E) N σ τ (xs (n + 1)) (xs (n + 2)) q_1) cw_L_178 t_0 cl_12 ⟨Nat.le_of_ble_eq_true rfl, Nat.le_of_ble_eq_true rfl⟩ rfl hl.1 rfl (Nat.le_of_ble_eq_true rfl) ⟨by show cells + 0 ≤ 601024; omega, by show slots + 0 ≤ 7293034; omega⟩ dL_law_1535 (fun r9 σ9 τ9 H locs hp hw => ?_)
  obtain ⟨rfl, rfl, rfl⟩ := hp
  refine lv_pop hx hb dL_law_1538 rfl ?_
  refine lv_aload_n hx hb dL_law_1539 rfl (lv_at hl 2 rfl) ?_
  refine lv_aload_n hx hb dL_law_1540 rfl (lv_at hl 4 rfl) ?_
  refine lv_iload hx hb dL_law_1541 (lv_at hl 0 rfl) ?_
  refine lv_iconst (v := 1) hx hb dL_law_1543 (by decide) ?_
  refine lv_iadd hx hb dL_law_1544 ?_
  refine gx_top (v := nI (n + 1)) (by rw [show (1 : Int32) = nI 1 from rfl, nI_add]) ?_
  refine va_sld (i := nI (n + 1)) hx hb hX hbl hbA hw.2 (vp_in_nI (by omega) (by omega)) dL_law_1545 ?_
  refine gx_top (v := xs (n + 1)) (by rw [nI_clamp (by omega)]) ?_
  refine lv_aload_n hx hb dL_law_1546 rfl (lv_at hl 4 rfl) ?_
  refine lv_iload hx hb dL_law_1547 (lv_at hl 0 rfl) ?_
  refine lv_iconst (v := 2) hx hb dL_law_1549 (by decide) ?_
  refine lv_iadd hx hb dL_law_1550 ?_
  refine gx_top (v := nI (n + 2)) (by rw [show (2 : Int32) = nI 2 from rfl, nI_add]) ?_
  refine va_sld (i := nI (n + 2)) hx hb hX hbl hbA hw.2 (vp_in_nI (by omega) (by omega)) dL_law_1551 ?_
  refine gx_top (v := xs (n + 2)) (by rw [nI_clamp (by omega)]) ?_
  refine gx_cVi (As := [.int (xs (n + 1)), .int (xs (n + 2))]) (rest := []) S hK hA hw (c_X12_order l (E := E) N σ_1 τ_1 (xs (n + 1)) (xs (n + 2)) q_2) cw_L_181 t_199 cl_13 ⟨Nat.le_of_ble_eq_true rfl, Nat.le_of_ble_eq_true rfl⟩ rfl hl.1 rfl (Nat.le_of_ble_eq_true rfl) ⟨by show cells + 0 ≤ 601024; omega, by show slots + 0 ≤ 7293034; omega⟩ dL_law_1552 (fun r9 σ9 τ9 H locs hp hw => ?_)
  obtain ⟨rfl, rfl, rfl⟩ := hp
  refine lv_pop hx hb dL_law_1555 rfl ?_
  refine lv_goto (tgt := 1662) hx hb dL_law_1556 (by decide) ?_
  refine W.widen (k := cells + 60) (n := slots + 1000) (by omega) (by omega) ?_
  exact kk _ _ _ _ _ hZ hw (lv_sub hl [0, 1, 2, 3, 4] rfl)
set_option maxHeartbeats 4000000 in
set_option maxRecDepth 100000 in
theorem lc_37 (l : Launch) (hl9 : l.stackTraces = false) (S : CallFix P9 m9 C9 cL_law 8 s #[Value.ref b] gx_G RL) (hK : gx_K E s) (hT9 : gx_T s) (hA : gx_Ok gx_tb 0 E s) (hX : va_X b L xs s s.heap) (hbl : b < s.heap.size) (hbA : ¬ gx_A 0 E.2.2 s.heap.size b) (N : Nat) (hN : 4294967296 ≤ N) (hL : L ≤ 3072) (hn : n + 6 ≤ L) (hc : cells + 60 ≤ 601024) (hs : slots + 1000 ≤ 7293034) (hw : gx_W gx_tb 0 E s σ τ H locs) (hl : lv_has ls 8 [(4, .int (nI n)), (3, .ref (E.2.2 + 233)), (2, .ref (E.2.2 + 199)), (1, .ref (E.2.2 + 0)), (0, .ref b)]) (kk : ∀ (σ : gI) (τ : gJ) (H : Heap) (locs : List Loc) (ls : Array Slot), Z σ τ → gx_W gx_tb 0 E s σ τ H locs → lv_has ls 8 [(4, .int (nI n)), (3, .ref (E.2.2 + 233)), (2, .ref (E.2.2 + 199)), (1, .ref (E.2.2 + 0)), (0, .ref b)] → W P9 l e9 room_1 s m9 #[Value.ref b] below meth C9 H locs (cells + 60) (slots + 1000) Q (F0 m9 1662 ls [])) (hq : okp (fun r1 σ1 τ1 => okp (fun r2 σ2 τ2 => Z σ2 τ2) (B_X12_keep_0 N σ1 τ1 (xs (n + 1)))) (B_X11_keep_0 N σ τ (xs (n + 1)))) : W P9 l e9 room_1 s m9 #[Value.ref b] below meth C9 H locs cells slots Q (F0 m9 1559 ls []) := by
  have hx := S.1
  have hb := S.2.1
  obtain ⟨r_1, σ_1, τ_1, q_1, h_1⟩ := hq
  obtain ⟨r_2, σ_2, τ_2, q_2, hZ⟩ := h_1
  refine lv_aload_n hx hb dL_law_1559 rfl (lv_at hl 3 rfl) ?_
  refine lv_aload_n hx hb dL_law_1560 rfl (lv_at hl 4 rfl) ?_
  refine lv_iload hx hb dL_law_1561 (lv_at hl 0 rfl) ?_
  refine lv_iconst (v := 1) hx hb dL_law_1563 (by decide) ?_
  refine lv_iadd hx hb dL_law_1564 ?_
  refine gx_top (v := nI (n + 1)) (by rw [show (1 : Int32) = nI 1 from rfl, nI_add]) ?_
  refine va_sld (i := nI (n + 1)) hx hb hX hbl hbA hw.2 (vp_in_nI (by omega) (by omega)) dL_law_1565 ?_
  refine gx_top (v := xs (n + 1)) (by rw [nI_clamp (by omega)]) ?_
  refine gx_cVi (As := [.int (xs (n + 1))]) (rest := []) S hK hA hw (c_X11_keep l (E := E) N σ τ (xs (n + 1)) q_1) cw_L_182 t_0 cl_12 ⟨Nat.le_of_ble_eq_true rfl, Nat.le_of_ble_eq_true rfl⟩ rfl hl.1 rfl (Nat.le_of_ble_eq_true rfl) ⟨by show cells + 0 ≤ 601024; omega, by show slots + 0 ≤ 7293034; omega⟩ dL_law_1566 (fun r9 σ9 τ9 H locs hp hw => ?_)
  obtain ⟨rfl, rfl, rfl⟩ := hp
  refine lv_pop hx hb dL_law_1569 rfl ?_
  refine lv_aload_n hx hb dL_law_1570 rfl (lv_at hl 2 rfl) ?_
  refine lv_aload_n hx hb dL_law_1571 rfl (lv_at hl 4 rfl) ?_
  refine lv_iload hx hb dL_law_1572 (lv_at hl 0 rfl) ?_
  refine lv_iconst (v := 1) hx hb dL_law_1574 (by decide) ?_
  refine lv_iadd hx hb dL_law_1575 ?_
  refine gx_top (v := nI (n + 1)) (by rw [show (1 : Int32) = nI 1 from rfl, nI_add]) ?_
  refine va_sld (i := nI (n + 1)) hx hb hX hbl hbA hw.2 (vp_in_nI (by omega) (by omega)) dL_law_1576 ?_
  refine gx_top (v := xs (n + 1)) (by rw [nI_clamp (by omega)]) ?_
  refine gx_cVi (As := [.int (xs (n + 1))]) (rest := []) S hK hA hw (c_X12_keep l (E := E) N σ_1 τ_1 (xs (n + 1)) q_2) cw_L_185 t_199 cl_13 ⟨Nat.le_of_ble_eq_true rfl, Nat.le_of_ble_eq_true rfl⟩ rfl hl.1 rfl (Nat.le_of_ble_eq_true rfl) ⟨by show cells + 0 ≤ 601024; omega, by show slots + 0 ≤ 7293034; omega⟩ dL_law_1577 (fun r9 σ9 τ9 H locs hp hw => ?_)
  obtain ⟨rfl, rfl, rfl⟩ := hp
  refine lv_pop hx hb dL_law_1580 rfl ?_
  refine lv_goto (tgt := 1662) hx hb dL_law_1581 (by decide) ?_
  refine W.widen (k := cells + 60) (n := slots + 1000) (by omega) (by omega) ?_
  exact kk _ _ _ _ _ hZ hw (lv_sub hl [0, 1, 2, 3, 4] rfl)
set_option maxHeartbeats 4000000 in
set_option maxRecDepth 100000 in
theorem lc_38 (l : Launch) (hl9 : l.stackTraces = false) (S : CallFix P9 m9 C9 cL_law 8 s #[Value.ref b] gx_G RL) (hK : gx_K E s) (hT9 : gx_T s) (hA : gx_Ok gx_tb 0 E s) (hX : va_X b L xs s s.heap) (hbl : b < s.heap.size) (hbA : ¬ gx_A 0 E.2.2 s.heap.size b) (N : Nat) (hN : 4294967296 ≤ N) (hL : L ≤ 3072) (hn : n + 6 ≤ L) (hc : cells + 60 ≤ 601024) (hs : slots + 1000 ≤ 7293034) (hw : gx_W gx_tb 0 E s σ τ H locs) (hl : lv_has ls 8 [(4, .int (nI n)), (3, .ref (E.2.2 + 233)), (2, .ref (E.2.2 + 199)), (1, .ref (E.2.2 + 0)), (0, .ref b)]) (kk : ∀ (σ : gI) (τ : gJ) (H : Heap) (locs : List Loc) (ls : Array Slot), Z σ τ → gx_W gx_tb 0 E s σ τ H locs → lv_has ls 8 [(4, .int (nI n)), (3, .ref (E.2.2 + 233)), (2, .ref (E.2.2 + 199)), (1, .ref (E.2.2 + 0)), (0, .ref b)] → W P9 l e9 room_1 s m9 #[Value.ref b] below meth C9 H locs (cells + 60) (slots + 1000) Q (F0 m9 1662 ls [])) (hq : okp (fun r1 σ1 τ1 => okp (fun r2 σ2 τ2 => r1 = r2 ∧ Z σ2 τ2) (B_X12_again_0 N σ1 τ1 (xs (n + 1)))) (B_X11_again_0 N σ τ (xs (n + 1)))) : W P9 l e9 room_1 s m9 #[Value.ref b] below meth C9 H locs cells slots Q (F0 m9 1584 ls []) := by
  have hx := S.1
  have hb := S.2.1
  obtain ⟨r_1, σ_1, τ_1, q_1, h_1⟩ := hq
  obtain ⟨r_2, σ_2, τ_2, q_2, hc9, hZ⟩ := h_1
  refine lv_aload_n hx hb dL_law_1584 rfl (lv_at hl 3 rfl) ?_
  refine lv_aload_n hx hb dL_law_1585 rfl (lv_at hl 4 rfl) ?_
  refine lv_iload hx hb dL_law_1586 (lv_at hl 0 rfl) ?_
  refine lv_iconst (v := 1) hx hb dL_law_1588 (by decide) ?_
  refine lv_iadd hx hb dL_law_1589 ?_
  refine gx_top (v := nI (n + 1)) (by rw [show (1 : Int32) = nI 1 from rfl, nI_add]) ?_
  refine va_sld (i := nI (n + 1)) hx hb hX hbl hbA hw.2 (vp_in_nI (by omega) (by omega)) dL_law_1590 ?_
  refine gx_top (v := xs (n + 1)) (by rw [nI_clamp (by omega)]) ?_
  refine gx_cVi (As := [.int (xs (n + 1))]) (rest := []) S hK hA hw (c_X11_again l (E := E) N σ τ (xs (n + 1)) q_1) cw_L_186 t_0 cl_12 ⟨Nat.le_of_ble_eq_true rfl, Nat.le_of_ble_eq_true rfl⟩ rfl hl.1 rfl (Nat.le_of_ble_eq_true rfl) ⟨by show cells + 0 ≤ 601024; omega, by show slots + 0 ≤ 7293034; omega⟩ dL_law_1591 (fun r9 σ9 τ9 H locs hp hw => ?_)
  obtain ⟨rfl, rfl, rfl⟩ := hp
  refine lv_aload_n hx hb dL_law_1594 rfl (lv_at hl 2 rfl) ?_
  refine lv_aload_n hx hb dL_law_1595 rfl (lv_at hl 4 rfl) ?_
  refine lv_iload hx hb dL_law_1596 (lv_at hl 0 rfl) ?_
  refine lv_iconst (v := 1) hx hb dL_law_1598 (by decide) ?_
  refine lv_iadd hx hb dL_law_1599 ?_
  refine gx_top (v := nI (n + 1)) (by rw [show (1 : Int32) = nI 1 from rfl, nI_add]) ?_
  refine va_sld (i := nI (n + 1)) hx hb hX hbl hbA hw.2 (vp_in_nI (by omega) (by omega)) dL_law_1600 ?_
  refine gx_top (v := xs (n + 1)) (by rw [nI_clamp (by omega)]) ?_
  refine gx_cVi (As := [.int (xs (n + 1))]) (rest := [.int r_1]) S hK hA hw (c_X12_again l (E := E) N σ_1 τ_1 (xs (n + 1)) q_2) cw_L_189 t_199 cl_13 ⟨Nat.le_of_ble_eq_true rfl, Nat.le_of_ble_eq_true rfl⟩ rfl hl.1 rfl (Nat.le_of_ble_eq_true rfl) ⟨by show cells + 0 ≤ 601024; omega, by show slots + 0 ≤ 7293034; omega⟩ dL_law_1601 (fun r9 σ9 τ9 H locs hp hw => ?_)
  obtain ⟨rfl, rfl, rfl⟩ := hp
  refine lv_icmp_eq (tgt := 1662) hx hb dL_law_1604 (by decide) (fun _ => ?_) (fun h => absurd hc9 h)
  refine W.widen (k := cells + 60) (n := slots + 1000) (by omega) (by omega) ?_
  exact kk _ _ _ _ _ hZ hw (lv_sub hl [0, 1, 2, 3, 4] rfl)
set_option maxHeartbeats 4000000 in
set_option maxRecDepth 100000 in
theorem lc_39 (l : Launch) (hl9 : l.stackTraces = false) (S : CallFix P9 m9 C9 cL_law 8 s #[Value.ref b] gx_G RL) (hK : gx_K E s) (hT9 : gx_T s) (hA : gx_Ok gx_tb 0 E s) (hX : va_X b L xs s s.heap) (hbl : b < s.heap.size) (hbA : ¬ gx_A 0 E.2.2 s.heap.size b) (N : Nat) (hN : 4294967296 ≤ N) (hL : L ≤ 3072) (hn : n + 6 ≤ L) (hc : cells + 60 ≤ 601024) (hs : slots + 1000 ≤ 7293034) (hw : gx_W gx_tb 0 E s σ τ H locs) (hl : lv_has ls 8 [(4, .int (nI n)), (3, .ref (E.2.2 + 233)), (2, .ref (E.2.2 + 199)), (1, .ref (E.2.2 + 0)), (0, .ref b)]) (kk : ∀ (σ : gI) (τ : gJ) (H : Heap) (locs : List Loc) (ls : Array Slot), Z σ τ → gx_W gx_tb 0 E s σ τ H locs → lv_has ls 8 [(4, .int (nI n)), (3, .ref (E.2.2 + 233)), (2, .ref (E.2.2 + 199)), (1, .ref (E.2.2 + 0)), (0, .ref b)] → W P9 l e9 room_1 s m9 #[Value.ref b] below meth C9 H locs (cells + 60) (slots + 1000) Q (F0 m9 1662 ls [])) (hq : okp (fun r1 σ1 τ1 => okp (fun r2 σ2 τ2 => Z σ2 τ2) (B_X12_count_0 N σ1 τ1 (xs (n + 1)))) (B_X11_count_0 N σ τ (xs (n + 1)))) : W P9 l e9 room_1 s m9 #[Value.ref b] below meth C9 H locs cells slots Q (F0 m9 1609 ls []) := by
  have hx := S.1
  have hb := S.2.1
  obtain ⟨r_1, σ_1, τ_1, q_1, h_1⟩ := hq
  obtain ⟨r_2, σ_2, τ_2, q_2, hZ⟩ := h_1
  refine lv_aload_n hx hb dL_law_1609 rfl (lv_at hl 3 rfl) ?_
  refine lv_aload_n hx hb dL_law_1610 rfl (lv_at hl 4 rfl) ?_
  refine lv_iload hx hb dL_law_1611 (lv_at hl 0 rfl) ?_
  refine lv_iconst (v := 1) hx hb dL_law_1613 (by decide) ?_
  refine lv_iadd hx hb dL_law_1614 ?_
  refine gx_top (v := nI (n + 1)) (by rw [show (1 : Int32) = nI 1 from rfl, nI_add]) ?_
  refine va_sld (i := nI (n + 1)) hx hb hX hbl hbA hw.2 (vp_in_nI (by omega) (by omega)) dL_law_1615 ?_
  refine gx_top (v := xs (n + 1)) (by rw [nI_clamp (by omega)]) ?_
  refine gx_cVi (As := [.int (xs (n + 1))]) (rest := []) S hK hA hw (c_X11_count l (E := E) N σ τ (xs (n + 1)) q_1) cw_L_190 t_0 cl_12 ⟨Nat.le_of_ble_eq_true rfl, Nat.le_of_ble_eq_true rfl⟩ rfl hl.1 rfl (Nat.le_of_ble_eq_true rfl) ⟨by show cells + 0 ≤ 601024; omega, by show slots + 0 ≤ 7293034; omega⟩ dL_law_1616 (fun r9 σ9 τ9 H locs hp hw => ?_)
  obtain ⟨rfl, rfl, rfl⟩ := hp
  refine lv_pop hx hb dL_law_1619 rfl ?_
  refine lv_aload_n hx hb dL_law_1620 rfl (lv_at hl 2 rfl) ?_
  refine lv_aload_n hx hb dL_law_1621 rfl (lv_at hl 4 rfl) ?_
  refine lv_iload hx hb dL_law_1622 (lv_at hl 0 rfl) ?_
  refine lv_iconst (v := 1) hx hb dL_law_1624 (by decide) ?_
  refine lv_iadd hx hb dL_law_1625 ?_
  refine gx_top (v := nI (n + 1)) (by rw [show (1 : Int32) = nI 1 from rfl, nI_add]) ?_
  refine va_sld (i := nI (n + 1)) hx hb hX hbl hbA hw.2 (vp_in_nI (by omega) (by omega)) dL_law_1626 ?_
  refine gx_top (v := xs (n + 1)) (by rw [nI_clamp (by omega)]) ?_
  refine gx_cVi (As := [.int (xs (n + 1))]) (rest := []) S hK hA hw (c_X12_count l (E := E) N σ_1 τ_1 (xs (n + 1)) q_2) cw_L_193 t_199 cl_13 ⟨Nat.le_of_ble_eq_true rfl, Nat.le_of_ble_eq_true rfl⟩ rfl hl.1 rfl (Nat.le_of_ble_eq_true rfl) ⟨by show cells + 0 ≤ 601024; omega, by show slots + 0 ≤ 7293034; omega⟩ dL_law_1627 (fun r9 σ9 τ9 H locs hp hw => ?_)
  obtain ⟨rfl, rfl, rfl⟩ := hp
  refine lv_pop hx hb dL_law_1630 rfl ?_
  refine lv_goto (tgt := 1662) hx hb dL_law_1631 (by decide) ?_
  refine W.widen (k := cells + 60) (n := slots + 1000) (by omega) (by omega) ?_
  exact kk _ _ _ _ _ hZ hw (lv_sub hl [0, 1, 2, 3, 4] rfl)
set_option maxHeartbeats 4000000 in
set_option maxRecDepth 100000 in
theorem lc_40 (l : Launch) (hl9 : l.stackTraces = false) (S : CallFix P9 m9 C9 cL_law 8 s #[Value.ref b] gx_G RL) (hK : gx_K E s) (hT9 : gx_T s) (hA : gx_Ok gx_tb 0 E s) (hX : va_X b L xs s s.heap) (hbl : b < s.heap.size) (hbA : ¬ gx_A 0 E.2.2 s.heap.size b) (N : Nat) (hN : 4294967296 ≤ N) (hL : L ≤ 3072) (hn : n + 6 ≤ L) (hc : cells + 60 ≤ 601024) (hs : slots + 1000 ≤ 7293034) (hw : gx_W gx_tb 0 E s σ τ H locs) (hl : lv_has ls 8 [(4, .int (nI n)), (3, .ref (E.2.2 + 233)), (2, .ref (E.2.2 + 199)), (1, .ref (E.2.2 + 0)), (0, .ref b)]) (kk : ∀ (σ : gI) (τ : gJ) (H : Heap) (locs : List Loc) (ls : Array Slot), Z σ τ → gx_W gx_tb 0 E s σ τ H locs → lv_has ls 8 [(4, .int (nI n)), (3, .ref (E.2.2 + 233)), (2, .ref (E.2.2 + 199)), (1, .ref (E.2.2 + 0)), (0, .ref b)] → W P9 l e9 room_1 s m9 #[Value.ref b] below meth C9 H locs (cells + 60) (slots + 1000) Q (F0 m9 1662 ls [])) (hq : IC σ ∧ ∀ τ9 : gJ, (∀ c k : Nat, c ≠ 233 → τ9 c k = τ c k) → okp (fun _ σ2 τ2 => Z σ2 τ2) (B_X12_row_0 N σ τ9 (xs (n + 1)))) : W P9 l e9 room_1 s m9 #[Value.ref b] below meth C9 H locs cells slots Q (F0 m9 1634 ls []) := by
  have hx := S.1
  have hb := S.2.1
  obtain ⟨hI, hq⟩ := hq
  refine lv_aload_n hx hb dL_law_1634 rfl (lv_at hl 3 rfl) ?_
  refine lv_aload_n hx hb dL_law_1635 rfl (lv_at hl 4 rfl) ?_
  refine lv_iload hx hb dL_law_1636 (lv_at hl 0 rfl) ?_
  refine lv_iconst (v := 1) hx hb dL_law_1638 (by decide) ?_
  refine lv_iadd hx hb dL_law_1639 ?_
  refine gx_top (v := nI (n + 1)) (by rw [show (1 : Int32) = nI 1 from rfl, nI_add]) ?_
  refine va_sld (i := nI (n + 1)) hx hb hX hbl hbA hw.2 (vp_in_nI (by omega) (by omega)) dL_law_1640 ?_
  refine gx_top (v := xs (n + 1)) (by rw [nI_clamp (by omega)]) ?_
  refine lv_aload_n hx hb dL_law_1641 rfl (lv_at hl 1 rfl) ?_
  refine gx_cSw (As := [.ref (E.2.2 + 0), .int (xs (n + 1)), .ref (E.2.2 + 233)]) (rest := []) S hK hT9 hA hw (c_L_row l hl9 (E := E) N hN σ τ (xs (n + 1)) hI) cw_L_194 ⟨Nat.le_of_ble_eq_true rfl, Nat.le_of_ble_eq_true rfl⟩ rfl hl.1 rfl (Nat.le_of_ble_eq_true rfl) ⟨by show cells + 1 ≤ 601024; omega, by show slots + 6 ≤ 7293034; omega⟩ dL_law_1642 (fun r_1 σ_1 τ_1 H locs hp hw => ?_)
  obtain ⟨es, ht⟩ := hp
  obtain ⟨r_2, σ_2, τ_2, q_2, hZ⟩ := hq τ_1 ht
  rw [es] at hw
  refine lv_istore (lv' := [(5, .int r_1), (4, .int (nI n)), (3, .ref (E.2.2 + 233)), (2, .ref (E.2.2 + 199)), (1, .ref (E.2.2 + 0)), (0, .ref b)]) hx hb dL_law_1645 hl (by decide) rfl (fun ls hl => ?_)
  refine lv_aload_n hx hb dL_law_1647 rfl (lv_at hl 3 rfl) ?_
  refine lv_aload_n hx hb dL_law_1648 rfl (lv_at hl 5 rfl) ?_
  refine lv_iload hx hb dL_law_1649 (lv_at hl 1 rfl) ?_
  refine lv_iconst (v := 1) hx hb dL_law_1651 (by decide) ?_
  refine lv_iadd hx hb dL_law_1652 ?_
  refine gx_top (v := nI (n + 1)) (by rw [show (1 : Int32) = nI 1 from rfl, nI_add]) ?_
  refine va_sld (i := nI (n + 1)) hx hb hX hbl hbA hw.2 (vp_in_nI (by omega) (by omega)) dL_law_1653 ?_
  refine gx_top (v := xs (n + 1)) (by rw [nI_clamp (by omega)]) ?_
  refine gx_cVl (As := [.int (xs (n + 1))]) (rest := []) S hK hA hw (c_X12_row l (E := E) N σ τ_1 (xs (n + 1)) q_2) cw_L_197 t_199 cl_13 ⟨Nat.le_of_ble_eq_true rfl, Nat.le_of_ble_eq_true rfl⟩ rfl hl.1 rfl (Nat.le_of_ble_eq_true rfl) ⟨by show cells + 1 + 0 ≤ 601024; omega, by show slots + 6 + 0 ≤ 7293034; omega⟩ dL_law_1654 (fun r9 σ9 τ9 H locs hp hw => ?_)
  obtain ⟨rfl, rfl, rfl⟩ := hp
  refine lv_lstore (lv' := [(6, .long r_2), (5, .int r_1), (4, .int (nI n)), (3, .ref (E.2.2 + 233)), (2, .ref (E.2.2 + 199)), (1, .ref (E.2.2 + 0)), (0, .ref b)]) hx hb dL_law_1657 hl (by decide) rfl (fun ls hl => ?_)
  refine lv_goto (tgt := 1662) hx hb dL_law_1659 (by decide) ?_
  refine W.widen (k := cells + 60) (n := slots + 1000) (by omega) (by omega) ?_
  exact kk _ _ _ _ _ hZ hw (lv_sub hl [2, 3, 4, 5, 6] rfl)
end LG31
