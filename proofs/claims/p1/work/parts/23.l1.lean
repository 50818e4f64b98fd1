section LC6
variable {P9 : Program} {e9 : Env} {s : State} {m9 : MethodId} {below : List Frame} {meth : Method} {C9 : Code} {E : gE} {b : Nat} {xs : Nat → Int32} {H : Heap} {locs : List Loc} {Q : State → Prop} {ls : Array Slot}
set_option maxHeartbeats 4000000 in
set_option maxRecDepth 100000 in
theorem lc_6 (l : Launch) (hl9 : l.stackTraces = false) (S : CallFix P9 m9 C9 cL_law 8 s #[Value.ref b] gx_G RL) (hK : gx_K E s) (hT9 : gx_T s) (hA : gx_Ok gx_tb 0 E s) (hX : va_X b 6 xs s s.heap) (hbl : b < s.heap.size) (hbA : ¬ gx_A 0 E.2.2 s.heap.size b) (hw : gx_W gx_tb 0 E s gs0 gt0 H locs) (hl : lv_has ls 8 [(4, .int 0), (3, .ref (E.2.2 + 233)), (2, .ref (E.2.2 + 199)), (1, .ref (E.2.2 + 0)), (0, .ref b)]) (kk : ∀ (σ : gI) (τ : gJ) (H : Heap) (locs : List Loc) (ls : Array Slot), gx_W gx_tb 0 E s σ τ H locs → lv_has ls 8 [(4, .int 0), (3, .ref (E.2.2 + 233)), (2, .ref (E.2.2 + 199)), (1, .ref (E.2.2 + 0)), (0, .ref b)] → W P9 l e9 room_1 s m9 #[Value.ref b] below meth C9 H locs 235 20159 Q (F0 m9 1745 ls [])) : W P9 l e9 room_1 s m9 #[Value.ref b] below meth C9 H locs 234 20153 Q (F0 m9 377 ls []) := by
  have hx := S.1
  have hb := S.2.1
  refine lv_aload_n hx hb dL_law_377 rfl (lv_at hl 3 rfl) ?_
  refine lv_aload_n hx hb dL_law_378 rfl (lv_at hl 4 rfl) ?_
  refine lv_iload hx hb dL_law_379 (lv_at hl 0 rfl) ?_
  refine lv_iconst (v := 1) hx hb dL_law_381 (by decide) ?_
  refine lv_iadd hx hb dL_law_382 ?_
  refine gx_top (v := 1) (by decide) ?_
  refine va_sld (i := 1) hx hb hX hbl hbA hw.2 (gx_in rfl (by decide) (by decide)) dL_law_383 ?_
  refine gx_top (v := xs 1) rfl ?_
  refine lv_aload_n hx hb dL_law_384 rfl (lv_at hl 4 rfl) ?_
  refine lv_iload hx hb dL_law_385 (lv_at hl 0 rfl) ?_
  refine lv_iconst (v := 2) hx hb dL_law_387 (by decide) ?_
  refine lv_iadd hx hb dL_law_388 ?_
  refine gx_top (v := 2) (by decide) ?_
  refine va_sld (i := 2) hx hb hX hbl hbA hw.2 (gx_in rfl (by decide) (by decide)) dL_law_389 ?_
  refine gx_top (v := xs 2) rfl ?_
  refine lv_aload_n hx hb dL_law_390 rfl (lv_at hl 1 rfl) ?_
  refine gx_cSw (As := [.ref (E.2.2 + 0), .int (xs 1), .int (xs 2), .ref (E.2.2 + 233)]) (rest := []) S hK hT9 hA hw (c_L_of l hl9 (E := E) (xs 1) (xs 2)) cw_L_58 ⟨Nat.le_of_ble_eq_true rfl, Nat.le_of_ble_eq_true rfl⟩ rfl hl.1 rfl (Nat.le_of_ble_eq_true rfl) ⟨Nat.le_of_ble_eq_true rfl, Nat.le_of_ble_eq_true rfl⟩ dL_law_391 (fun r_1 σ_1 τ_1 H locs hp hw => ?_)
  obtain ⟨er_1, es_1, et_1⟩ := hp
  obtain rfl := er_1.symm
  obtain rfl := es_1.symm
  obtain rfl := et_1.symm
  refine W.widen (k := 235) (n := 20159) (by omega) (by omega) ?_
  refine lv_istore (lv' := [(5, .int 1), (4, .int 0), (3, .ref (E.2.2 + 233)), (2, .ref (E.2.2 + 199)), (1, .ref (E.2.2 + 0)), (0, .ref b)]) hx hb dL_law_394 hl (by decide) rfl (fun ls hl => ?_)
  refine lv_aload_n hx hb dL_law_396 rfl (lv_at hl 3 rfl) ?_
  refine lv_aload_n hx hb dL_law_397 rfl (lv_at hl 5 rfl) ?_
  refine lv_iload hx hb dL_law_398 (lv_at hl 1 rfl) ?_
  refine lv_iconst (v := 1) hx hb dL_law_400 (by decide) ?_
  refine lv_iadd hx hb dL_law_401 ?_
  refine gx_top (v := 1) (by decide) ?_
  refine va_sld (i := 1) hx hb hX hbl hbA hw.2 (gx_in rfl (by decide) (by decide)) dL_law_402 ?_
  refine gx_top (v := xs 1) rfl ?_
  refine lv_aload_n hx hb dL_law_403 rfl (lv_at hl 5 rfl) ?_
  refine lv_iload hx hb dL_law_404 (lv_at hl 1 rfl) ?_
  refine lv_iconst (v := 2) hx hb dL_law_406 (by decide) ?_
  refine lv_iadd hx hb dL_law_407 ?_
  refine gx_top (v := 2) (by decide) ?_
  refine va_sld (i := 2) hx hb hX hbl hbA hw.2 (gx_in rfl (by decide) (by decide)) dL_law_408 ?_
  refine gx_top (v := xs 2) rfl ?_
  refine gx_cVi (As := [.int (xs 1), .int (xs 2)]) (rest := []) S hK hA hw (c_m_of l (E := E) gs0 gt0 (xs 1) (xs 2) (fun c9 k9 h9 => gs0_hi h9)) cw_L_60 t_199 cl_13 ⟨Nat.le_of_ble_eq_true rfl, Nat.le_of_ble_eq_true rfl⟩ rfl hl.1 rfl (Nat.le_of_ble_eq_true rfl) ⟨Nat.le_of_ble_eq_true rfl, Nat.le_of_ble_eq_true rfl⟩ dL_law_409 (fun r_2 σ_2 τ_2 H locs hp hw => ?_)
  obtain ⟨er_2, es_2, et_2⟩ := hp
  obtain rfl := er_2.symm
  obtain rfl := es_2.symm
  obtain rfl := et_2.symm
  refine lv_istore (lv' := [(6, .int 0), (5, .int 1), (4, .int 0), (3, .ref (E.2.2 + 233)), (2, .ref (E.2.2 + 199)), (1, .ref (E.2.2 + 0)), (0, .ref b)]) hx hb dL_law_412 hl (by decide) rfl (fun ls hl => ?_)
  refine lv_aload_n hx hb dL_law_414 rfl (lv_at hl 4 rfl) ?_
  refine gx_cVi (As := []) (rest := []) S hK hA hw (c_thrown1 l (E := E) (up2 (up2 gs0 199 0 0) 199 0 1) gt0 (by simp [up2])) cw_L_55 t_199 cl_13 ⟨Nat.le_of_ble_eq_true rfl, Nat.le_of_ble_eq_true rfl⟩ rfl hl.1 rfl (Nat.le_of_ble_eq_true rfl) ⟨Nat.le_of_ble_eq_true rfl, Nat.le_of_ble_eq_true rfl⟩ dL_law_415 (fun r_3 σ_3 τ_3 H locs hp hw => ?_)
  obtain ⟨er_3, es_3, et_3⟩ := hp
  obtain rfl := er_3.symm
  obtain rfl := es_3.symm
  obtain rfl := et_3.symm
  refine lv_iload hx hb dL_law_418 (lv_at hl 1 rfl) ?_
  refine lv_icmp_eq (tgt := 425) hx hb dL_law_420 (by decide) (fun _ => ?_) (fun h => absurd rfl h)
  refine lv_iload hx hb dL_law_425 (lv_at hl 1 rfl) ?_
  refine lv_if_ne (tgt := 442) hx hb dL_law_427 (by decide) (fun _ => ?_) (fun h => absurd h (by decide))
  refine lv_goto (tgt := 1745) hx hb dL_law_442 (by decide) ?_
  exact kk _ _ _ _ _ hw (lv_sub hl [2, 3, 4, 5, 6] rfl)
set_option maxHeartbeats 4000000 in
set_option maxRecDepth 100000 in
theorem lc_7 (l : Launch) (hl9 : l.stackTraces = false) (S : CallFix P9 m9 C9 cL_law 8 s #[Value.ref b] gx_G RL) (hK : gx_K E s) (hT9 : gx_T s) (hA : gx_Ok gx_tb 0 E s) (hX : va_X b 6 xs s s.heap) (hbl : b < s.heap.size) (hbA : ¬ gx_A 0 E.2.2 s.heap.size b) (hw : gx_W gx_tb 0 E s gs0 gt0 H locs) (hl : lv_has ls 8 [(4, .int 0), (3, .ref (E.2.2 + 233)), (2, .ref (E.2.2 + 199)), (1, .ref (E.2.2 + 0)), (0, .ref b)]) (kk : ∀ (σ : gI) (τ : gJ) (H : Heap) (locs : List Loc) (ls : Array Slot), gx_W gx_tb 0 E s σ τ H locs → lv_has ls 8 [(4, .int 0), (3, .ref (E.2.2 + 233)), (2, .ref (E.2.2 + 199)), (1, .ref (E.2.2 + 0)), (0, .ref b)] → W P9 l e9 room_1 s m9 #[Value.ref b] below meth C9 H locs 235 20159 Q (F0 m9 1745 ls [])) : W P9 l e9 room_1 s m9 #[Value.ref b] below meth C9 H locs 234 20153 Q (F0 m9 445 ls []) := by
  have hx := S.1
  have hb := S.2.1
  refine lv_aload_n hx hb dL_law_445 rfl (lv_at hl 3 rfl) ?_
  refine lv_aload_n hx hb dL_law_446 rfl (lv_at hl 4 rfl) ?_
  refine lv_iload hx hb dL_law_447 (lv_at hl 0 rfl) ?_
  refine lv_iconst (v := 1) hx hb dL_law_449 (by decide) ?_
  refine lv_iadd hx hb dL_law_450 ?_
  refine gx_top (v := 1) (by decide) ?_
  refine va_sld (i := 1) hx hb hX hbl hbA hw.2 (gx_in rfl (by decide) (by decide)) dL_law_451 ?_
  refine gx_top (v := xs 1) rfl ?_
  refine gx_cVi (As := [.int (xs 1)]) (rest := []) S hK hA hw (c_x_flow l (E := E) (xs 1)) cw_L_61 t_0 cl_12 ⟨Nat.le_of_ble_eq_true rfl, Nat.le_of_ble_eq_true rfl⟩ rfl hl.1 rfl (Nat.le_of_ble_eq_true rfl) ⟨Nat.le_of_ble_eq_true rfl, Nat.le_of_ble_eq_true rfl⟩ dL_law_452 (fun r_1 σ_1 τ_1 H locs hp hw => ?_)
  obtain ⟨er_1, hs_1, -⟩ := hp
  obtain rfl := er_1.symm
  refine lv_aload_n hx hb dL_law_455 rfl (lv_at hl 2 rfl) ?_
  refine lv_aload_n hx hb dL_law_456 rfl (lv_at hl 4 rfl) ?_
  refine lv_iload hx hb dL_law_457 (lv_at hl 0 rfl) ?_
  refine lv_iconst (v := 1) hx hb dL_law_459 (by decide) ?_
  refine lv_iadd hx hb dL_law_460 ?_
  refine gx_top (v := 1) (by decide) ?_
  refine va_sld (i := 1) hx hb hX hbl hbA hw.2 (gx_in rfl (by decide) (by decide)) dL_law_461 ?_
  refine gx_top (v := xs 1) rfl ?_
  refine gx_cVi (As := [.int (xs 1)]) (rest := [.int (if 0 ≤ (xs 1).toInt ∧ (xs 1).toInt ≤ 9999 then 1 else (-1))]) S hK hA hw (c_m_flow l (E := E) (σ_1) (τ_1) (xs 1) (fun c9 k9 h9 => (hs_1 c9 k9 h9).trans (gs0_hi h9))) cw_L_64 t_199 cl_13 ⟨Nat.le_of_ble_eq_true rfl, Nat.le_of_ble_eq_true rfl⟩ rfl hl.1 rfl (Nat.le_of_ble_eq_true rfl) ⟨Nat.le_of_ble_eq_true rfl, Nat.le_of_ble_eq_true rfl⟩ dL_law_462 (fun r_2 σ_2 τ_2 H locs hp hw => ?_)
  obtain ⟨er_2, -, -⟩ := hp
  obtain rfl := er_2.symm
  refine lv_icmp_eq (tgt := 1745) hx hb dL_law_465 (by decide) (fun _ => ?_) (fun h => absurd rfl h)
  refine W.widen (k := 235) (n := 20159) (by omega) (by omega) ?_
  exact kk _ _ _ _ _ hw (lv_sub hl [0, 1, 2, 3, 4] rfl)
set_option maxHeartbeats 4000000 in
set_option maxRecDepth 100000 in
theorem lc_8 (l : Launch) (hl9 : l.stackTraces = false) (S : CallFix P9 m9 C9 cL_law 8 s #[Value.ref b] gx_G RL) (hK : gx_K E s) (hT9 : gx_T s) (hA : gx_Ok gx_tb 0 E s) (hX : va_X b 6 xs s s.heap) (hbl : b < s.heap.size) (hbA : ¬ gx_A 0 E.2.2 s.heap.size b) (hw : gx_W gx_tb 0 E s gs0 gt0 H locs) (hl : lv_has ls 8 [(4, .int 0), (3, .ref (E.2.2 + 233)), (2, .ref (E.2.2 + 199)), (1, .ref (E.2.2 + 0)), (0, .ref b)]) (kk : ∀ (σ : gI) (τ : gJ) (H : Heap) (locs : List Loc) (ls : Array Slot), gx_W gx_tb 0 E s σ τ H locs → lv_has ls 8 [(4, .int 0), (3, .ref (E.2.2 + 233)), (2, .ref (E.2.2 + 199)), (1, .ref (E.2.2 + 0)), (0, .ref b)] → W P9 l e9 room_1 s m9 #[Value.ref b] below meth C9 H locs 235 20159 Q (F0 m9 1745 ls [])) : W P9 l e9 room_1 s m9 #[Value.ref b] below meth C9 H locs 234 20153 Q (F0 m9 470 ls []) := by
  have hx := S.1
  have hb := S.2.1
  refine lv_aload_n hx hb dL_law_470 rfl (lv_at hl 3 rfl) ?_
  refine lv_aload_n hx hb dL_law_471 rfl (lv_at hl 4 rfl) ?_
  refine lv_iload hx hb dL_law_472 (lv_at hl 0 rfl) ?_
  refine lv_iconst (v := 1) hx hb dL_law_474 (by decide) ?_
  refine lv_iadd hx hb dL_law_475 ?_
  refine gx_top (v := 1) (by decide) ?_
  refine va_sld (i := 1) hx hb hX hbl hbA hw.2 (gx_in rfl (by decide) (by decide)) dL_law_476 ?_
  refine gx_top (v := xs 1) rfl ?_
  refine lv_aload_n hx hb dL_law_477 rfl (lv_at hl 4 rfl) ?_
  refine lv_iload hx hb dL_law_478 (lv_at hl 0 rfl) ?_
  refine lv_iconst (v := 2) hx hb dL_law_480 (by decide) ?_
  refine lv_iadd hx hb dL_law_481 ?_
  refine gx_top (v := 2) (by decide) ?_
  refine va_sld (i := 2) hx hb hX hbl hbA hw.2 (gx_in rfl (by decide) (by decide)) dL_law_482 ?_
  refine gx_top (v := xs 2) rfl ?_
  refine gx_cVi (As := [.int (xs 1), .int (xs 2)]) (rest := []) S hK hA hw (c_x_plank l (E := E) (xs 1) (xs 2)) cw_L_65 t_0 cl_12 ⟨Nat.le_of_ble_eq_true rfl, Nat.le_of_ble_eq_true rfl⟩ rfl hl.1 rfl (Nat.le_of_ble_eq_true rfl) ⟨Nat.le_of_ble_eq_true rfl, Nat.le_of_ble_eq_true rfl⟩ dL_law_483 (fun r_1 σ_1 τ_1 H locs hp hw => ?_)
  obtain ⟨er_1, hs_1, -⟩ := hp
  obtain rfl := er_1.symm
  refine lv_aload_n hx hb dL_law_486 rfl (lv_at hl 2 rfl) ?_
  refine lv_aload_n hx hb dL_law_487 rfl (lv_at hl 4 rfl) ?_
  refine lv_iload hx hb dL_law_488 (lv_at hl 0 rfl) ?_
  refine lv_iconst (v := 1) hx hb dL_law_490 (by decide) ?_
  refine lv_iadd hx hb dL_law_491 ?_
  refine gx_top (v := 1) (by decide) ?_
  refine va_sld (i := 1) hx hb hX hbl hbA hw.2 (gx_in rfl (by decide) (by decide)) dL_law_492 ?_
  refine gx_top (v := xs 1) rfl ?_
  refine lv_aload_n hx hb dL_law_493 rfl (lv_at hl 4 rfl) ?_
  refine lv_iload hx hb dL_law_494 (lv_at hl 0 rfl) ?_
  refine lv_iconst (v := 2) hx hb dL_law_496 (by decide) ?_
  refine lv_iadd hx hb dL_law_497 ?_
  refine gx_top (v := 2) (by decide) ?_
  refine va_sld (i := 2) hx hb hX hbl hbA hw.2 (gx_in rfl (by decide) (by decide)) dL_law_498 ?_
  refine gx_top (v := xs 2) rfl ?_
  refine gx_cVi (As := [.int (xs 1), .int (xs 2)]) (rest := [.int 0]) S hK hA hw (c_m_plank l (E := E) (σ_1) (τ_1) (xs 1) (xs 2) (fun c9 k9 h9 => (hs_1 c9 k9 h9).trans (gs0_hi h9))) cw_L_69 t_199 cl_13 ⟨Nat.le_of_ble_eq_true rfl, Nat.le_of_ble_eq_true rfl⟩ rfl hl.1 rfl (Nat.le_of_ble_eq_true rfl) ⟨Nat.le_of_ble_eq_true rfl, Nat.le_of_ble_eq_true rfl⟩ dL_law_499 (fun r_2 σ_2 τ_2 H locs hp hw => ?_)
  obtain ⟨er_2, -, -⟩ := hp
  obtain rfl := er_2.symm
  refine lv_icmp_eq (tgt := 1745) hx hb dL_law_502 (by decide) (fun _ => ?_) (fun h => absurd rfl h)
  refine W.widen (k := 235) (n := 20159) (by omega) (by omega) ?_
  exact kk _ _ _ _ _ hw (lv_sub hl [0, 1, 2, 3, 4] rfl)
set_option maxHeartbeats 4000000 in
set_option maxRecDepth 100000 in
theorem lc_9 (l : Launch) (hl9 : l.stackTraces = false) (S : CallFix P9 m9 C9 cL_law 8 s #[Value.ref b] gx_G RL) (hK : gx_K E s) (hT9 : gx_T s) (hA : gx_Ok gx_tb 0 E s) (hX : va_X b 6 xs s s.heap) (hbl : b < s.heap.size) (hbA : ¬ gx_A 0 E.2.2 s.heap.size b) (hw : gx_W gx_tb 0 E s gs0 gt0 H locs) (hl : lv_has ls 8 [(4, .int 0), (3, .ref (E.2.2 + 233)), (2, .ref (E.2.2 + 199)), (1, .ref (E.2.2 + 0)), (0, .ref b)]) (kk : ∀ (σ : gI) (τ : gJ) (H : Heap) (locs : List Loc) (ls : Array Slot), gx_W gx_tb 0 E s σ τ H locs → lv_has ls 8 [(4, .int 0), (3, .ref (E.2.2 + 233)), (2, .ref (E.2.2 + 199)), (1, .ref (E.2.2 + 0)), (0, .ref b)] → W P9 l e9 room_1 s m9 #[Value.ref b] below meth C9 H locs 235 20159 Q (F0 m9 1745 ls [])) : W P9 l e9 room_1 s m9 #[Value.ref b] below meth C9 H locs 234 20153 Q (F0 m9 507 ls []) := by
  have hx := S.1
  have hb := S.2.1
  refine lv_aload_n hx hb dL_law_507 rfl (lv_at hl 3 rfl) ?_
  refine lv_aload_n hx hb dL_law_508 rfl (lv_at hl 4 rfl) ?_
  refine lv_iload hx hb dL_law_509 (lv_at hl 0 rfl) ?_
  refine lv_iconst (v := 1) hx hb dL_law_511 (by decide) ?_
  refine lv_iadd hx hb dL_law_512 ?_
  refine gx_top (v := 1) (by decide) ?_
  refine va_sld (i := 1) hx hb hX hbl hbA hw.2 (gx_in rfl (by decide) (by decide)) dL_law_513 ?_
  refine gx_top (v := xs 1) rfl ?_
  refine lv_aload_n hx hb dL_law_514 rfl (lv_at hl 4 rfl) ?_
  refine lv_iload hx hb dL_law_515 (lv_at hl 0 rfl) ?_
  refine lv_iconst (v := 2) hx hb dL_law_517 (by decide) ?_
  refine lv_iadd hx hb dL_law_518 ?_
  refine gx_top (v := 2) (by decide) ?_
  refine va_sld (i := 2) hx hb hX hbl hbA hw.2 (gx_in rfl (by decide) (by decide)) dL_law_519 ?_
  refine gx_top (v := xs 2) rfl ?_
  refine lv_aload_n hx hb dL_law_520 rfl (lv_at hl 4 rfl) ?_
  refine lv_iload hx hb dL_law_521 (lv_at hl 0 rfl) ?_
  refine lv_iconst (v := 3) hx hb dL_law_523 (by decide) ?_
  refine lv_iadd hx hb dL_law_524 ?_
  refine gx_top (v := 3) (by decide) ?_
  refine va_sld (i := 3) hx hb hX hbl hbA hw.2 (gx_in rfl (by decide) (by decide)) dL_law_525 ?_
  refine gx_top (v := xs 3) rfl ?_
  refine lv_aload_n hx hb dL_law_526 rfl (lv_at hl 4 rfl) ?_
  refine lv_iload hx hb dL_law_527 (lv_at hl 0 rfl) ?_
  refine lv_iconst (v := 4) hx hb dL_law_529 (by decide) ?_
  refine lv_iadd hx hb dL_law_530 ?_
  refine gx_top (v := 4) (by decide) ?_
  refine va_sld (i := 4) hx hb hX hbl hbA hw.2 (gx_in rfl (by decide) (by decide)) dL_law_531 ?_
  refine gx_top (v := xs 4) rfl ?_
  refine gx_cVi (As := [.int (xs 1), .int (xs 2), .int (xs 3), .int (xs 4)]) (rest := []) S hK hA hw (c_x_sheet l (E := E) (xs 1) (xs 2) (xs 3) (xs 4)) cw_L_70 t_0 cl_12 ⟨Nat.le_of_ble_eq_true rfl, Nat.le_of_ble_eq_true rfl⟩ rfl hl.1 rfl (Nat.le_of_ble_eq_true rfl) ⟨Nat.le_of_ble_eq_true rfl, Nat.le_of_ble_eq_true rfl⟩ dL_law_532 (fun r_1 σ_1 τ_1 H locs hp hw => ?_)
  obtain ⟨er_1, hs_1, -⟩ := hp
  obtain rfl := er_1.symm
  refine lv_aload_n hx hb dL_law_535 rfl (lv_at hl 2 rfl) ?_
  refine lv_aload_n hx hb dL_law_536 rfl (lv_at hl 4 rfl) ?_
  refine lv_iload hx hb dL_law_537 (lv_at hl 0 rfl) ?_
  refine lv_iconst (v := 1) hx hb dL_law_539 (by decide) ?_
  refine lv_iadd hx hb dL_law_540 ?_
  refine gx_top (v := 1) (by decide) ?_
  refine va_sld (i := 1) hx hb hX hbl hbA hw.2 (gx_in rfl (by decide) (by decide)) dL_law_541 ?_
  refine gx_top (v := xs 1) rfl ?_
  refine lv_aload_n hx hb dL_law_542 rfl (lv_at hl 4 rfl) ?_
  refine lv_iload hx hb dL_law_543 (lv_at hl 0 rfl) ?_
  refine lv_iconst (v := 2) hx hb dL_law_545 (by decide) ?_
  refine lv_iadd hx hb dL_law_546 ?_
  refine gx_top (v := 2) (by decide) ?_
  refine va_sld (i := 2) hx hb hX hbl hbA hw.2 (gx_in rfl (by decide) (by decide)) dL_law_547 ?_
  refine gx_top (v := xs 2) rfl ?_
  refine lv_aload_n hx hb dL_law_548 rfl (lv_at hl 4 rfl) ?_
  refine lv_iload hx hb dL_law_549 (lv_at hl 0 rfl) ?_
  refine lv_iconst (v := 3) hx hb dL_law_551 (by decide) ?_
  refine lv_iadd hx hb dL_law_552 ?_
  refine gx_top (v := 3) (by decide) ?_
  refine va_sld (i := 3) hx hb hX hbl hbA hw.2 (gx_in rfl (by decide) (by decide)) dL_law_553 ?_
  refine gx_top (v := xs 3) rfl ?_
  refine lv_aload_n hx hb dL_law_554 rfl (lv_at hl 4 rfl) ?_
  refine lv_iload hx hb dL_law_555 (lv_at hl 0 rfl) ?_
  refine lv_iconst (v := 4) hx hb dL_law_557 (by decide) ?_
  refine lv_iadd hx hb dL_law_558 ?_
  refine gx_top (v := 4) (by decide) ?_
  refine va_sld (i := 4) hx hb hX hbl hbA hw.2 (gx_in rfl (by decide) (by decide)) dL_law_559 ?_
  refine gx_top (v := xs 4) rfl ?_
  refine gx_cVi (As := [.int (xs 1), .int (xs 2), .int (xs 3), .int (xs 4)]) (rest := [.int (if (xs 1).toInt < 0 ∨ 3 < (xs 1).toInt ∨ 6 < (xs 2).toInt then (-1) else (if (xs 1).toInt = 3 then (-3) else (if (xs 2).toInt < 0 then (-2) else 0)))]) S hK hA hw (c_m_sheet l (E := E) (σ_1) (τ_1) (xs 1) (xs 2) (xs 3) (xs 4) (fun c9 k9 h9 => (hs_1 c9 k9 h9).trans (gs0_hi h9))) cw_L_74 t_199 cl_13 ⟨Nat.le_of_ble_eq_true rfl, Nat.le_of_ble_eq_true rfl⟩ rfl hl.1 rfl (Nat.le_of_ble_eq_true rfl) ⟨Nat.le_of_ble_eq_true rfl, Nat.le_of_ble_eq_true rfl⟩ dL_law_560 (fun r_2 σ_2 τ_2 H locs hp hw => ?_)
  obtain ⟨er_2, -, -⟩ := hp
  obtain rfl := er_2.symm
  refine lv_icmp_eq (tgt := 1745) hx hb dL_law_563 (by decide) (fun _ => ?_) (fun h => absurd rfl h)
  refine W.widen (k := 235) (n := 20159) (by omega) (by omega) ?_
  exact kk _ _ _ _ _ hw (lv_sub hl [0, 1, 2, 3, 4] rfl)
end LC6
