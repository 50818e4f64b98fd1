section LG10
variable {P9 : Program} {e9 : Env} {s : State} {m9 : MethodId} {below : List Frame} {meth : Method} {C9 : Code} {E : gE} {b L n cells slots : Nat} {xs : Nat → Int32} {H : Heap} {locs : List Loc} {Q : State → Prop} {ls : Array Slot} {σ : gI} {τ : gJ} {Z : gI → gJ → Prop}
set_option maxHeartbeats 4000000 in
set_option maxRecDepth 100000 in
theorem lc_10 (l : Launch) (hl9 : l.stackTraces = false) (S : CallFix P9 m9 C9 cL_law 8 s #[Value.ref b] gx_G RL) (hK : gx_K E s) (hT9 : gx_T s) (hA : gx_Ok gx_tb 0 E s) (hX : va_X b L xs s s.heap) (hbl : b < s.heap.size) (hbA : ¬ gx_A 0 E.2.2 s.heap.size b) (N : Nat) (hN : 4294967296 ≤ N) (hL : L ≤ 3072) (hn : n + 6 ≤ L) (hc : cells + 60 ≤ 601024) (hs : slots + 1000 ≤ 7293034) (hw : gx_W gx_tb 0 E s σ τ H locs) (hl : lv_has ls 8 [(4, .int (nI n)), (3, .ref (E.2.2 + 233)), (2, .ref (E.2.2 + 199)), (1, .ref (E.2.2 + 0)), (0, .ref b)]) (kk : ∀ (σ : gI) (τ : gJ) (H : Heap) (locs : List Loc) (ls : Array Slot), Z σ τ → gx_W gx_tb 0 E s σ τ H locs → lv_has ls 8 [(4, .int (nI n)), (3, .ref (E.2.2 + 233)), (2, .ref (E.2.2 + 199)), (1, .ref (E.2.2 + 0)), (0, .ref b)] → W P9 l e9 room_1 s m9 #[Value.ref b] below meth C9 H locs (cells + 60) (slots + 1000) Q (F0 m9 1662 ls [])) (hq : okp (fun r1 σ1 τ1 => okp (fun r2 σ2 τ2 => Z σ2 τ2) (B_X12_put_0 N σ1 τ1 (xs (n + 1)) (xs (n + 2)) (xs (n + 3)) (xs (n + 4)))) (B_X11_put_0 N σ τ (xs (n + 1)) (xs (n + 2)) (xs (n + 3)) (xs (n + 4)))) : W P9 l e9 room_1 s m9 #[Value.ref b] below meth C9 H locs cells slots Q (F0 m9 512 ls []) := by
  have hx := S.1
  have hb := S.2.1
  obtain ⟨r_1, σ_1, τ_1, q_1, h_1⟩ := hq
  obtain ⟨r_2, σ_2, τ_2, q_2, hZ⟩ := h_1
  refine lv_aload_n hx hb dL_law_512 rfl (lv_at hl 3 rfl) ?_
  refine lv_aload_n hx hb dL_law_513 rfl (lv_at hl 4 rfl) ?_
  refine lv_iload hx hb dL_law_514 (lv_at hl 0 rfl) ?_
  refine lv_iconst (v := 1) hx hb dL_law_516 (by decide) ?_
  refine lv_iadd hx hb dL_law_517 ?_
  refine gx_top (v := nI (n + 1)) (by rw [show (1 : Int32) = nI 1 from rfl, nI_add]) ?_
  refine va_sld (i := nI (n + 1)) hx hb hX hbl hbA hw.2 (vp_in_nI (by omega) (by omega)) dL_law_518 ?_
  refine gx_top (v := xs (n + 1)) (by rw [nI_clamp (by omega)]) ?_
  refine lv_aload_n hx hb dL_law_519 rfl (lv_at hl 4 rfl) ?_
  refine lv_iload hx hb dL_law_520 (lv_at hl 0 rfl) ?_
  refine lv_iconst (v := 2) hx hb dL_law_522 (by decide) ?_
  refine lv_iadd hx hb dL_law_523 ?_
  refine gx_top (v := nI (n + 2)) (by rw [show (2 : Int32) = nI 2 from rfl, nI_add]) ?_
  refine va_sld (i := nI (n + 2)) hx hb hX hbl hbA hw.2 (vp_in_nI (by omega) (by omega)) dL_law_524 ?_
  refine gx_top (v := xs (n + 2)) (by rw [nI_clamp (by omega)]) ?_
  refine lv_aload_n hx hb dL_law_525 rfl (lv_at hl 4 rfl) ?_
  refine lv_iload hx hb dL_law_526 (lv_at hl 0 rfl) ?_
  refine lv_iconst (v := 3) hx hb dL_law_528 (by decide) ?_
  refine lv_iadd hx hb dL_law_529 ?_
  refine gx_top (v := nI (n + 3)) (by rw [show (3 : Int32) = nI 3 from rfl, nI_add]) ?_
  refine va_sld (i := nI (n + 3)) hx hb hX hbl hbA hw.2 (vp_in_nI (by omega) (by omega)) dL_law_530 ?_
  refine gx_top (v := xs (n + 3)) (by rw [nI_clamp (by omega)]) ?_
  refine lv_aload_n hx hb dL_law_531 rfl (lv_at hl 4 rfl) ?_
  refine lv_iload hx hb dL_law_532 (lv_at hl 0 rfl) ?_
  refine lv_iconst (v := 4) hx hb dL_law_534 (by decide) ?_
  refine lv_iadd hx hb dL_law_535 ?_
  refine gx_top (v := nI (n + 4)) (by rw [show (4 : Int32) = nI 4 from rfl, nI_add]) ?_
  refine va_sld (i := nI (n + 4)) hx hb hX hbl hbA hw.2 (vp_in_nI (by omega) (by omega)) dL_law_536 ?_
  refine gx_top (v := xs (n + 4)) (by rw [nI_clamp (by omega)]) ?_
  refine gx_cVi (As := [.int (xs (n + 1)), .int (xs (n + 2)), .int (xs (n + 3)), .int (xs (n + 4))]) (rest := []) S hK hA hw (c_X11_put l (E := E) N σ τ (xs (n + 1)) (xs (n + 2)) (xs (n + 3)) (xs (n + 4)) q_1) cw_L_72 t_0 cl_12 ⟨Nat.le_of_ble_eq_true rfl, Nat.le_of_ble_eq_true rfl⟩ rfl hl.1 rfl (Nat.le_of_ble_eq_true rfl) ⟨by show cells + 0 ≤ 601024; omega, by show slots + 0 ≤ 7293034; omega⟩ dL_law_537 (fun r9 σ9 τ9 H locs hp hw => ?_)
  obtain ⟨rfl, rfl, rfl⟩ := hp
  refine lv_pop hx hb dL_law_540 rfl ?_
  refine lv_aload_n hx hb dL_law_541 rfl (lv_at hl 2 rfl) ?_
  refine lv_aload_n hx hb dL_law_542 rfl (lv_at hl 4 rfl) ?_
  refine lv_iload hx hb dL_law_543 (lv_at hl 0 rfl) ?_
  refine lv_iconst (v := 1) hx hb dL_law_545 (by decide) ?_
  refine lv_iadd hx hb dL_law_546 ?_
  refine gx_top (v := nI (n + 1)) (by rw [show (1 : Int32) = nI 1 from rfl, nI_add]) ?_
  refine va_sld (i := nI (n + 1)) hx hb hX hbl hbA hw.2 (vp_in_nI (by omega) (by omega)) dL_law_547 ?_
  refine gx_top (v := xs (n + 1)) (by rw [nI_clamp (by omega)]) ?_
  refine lv_aload_n hx hb dL_law_548 rfl (lv_at hl 4 rfl) ?_
  refine lv_iload hx hb dL_law_549 (lv_at hl 0 rfl) ?_
  refine lv_iconst (v := 2) hx hb dL_law_551 (by decide) ?_
  refine lv_iadd hx hb dL_law_552 ?_
  refine gx_top (v := nI (n + 2)) (by rw [show (2 : Int32) = nI 2 from rfl, nI_add]) ?_
  refine va_sld (i := nI (n + 2)) hx hb hX hbl hbA hw.2 (vp_in_nI (by omega) (by omega)) dL_law_553 ?_
  refine gx_top (v := xs (n + 2)) (by rw [nI_clamp (by omega)]) ?_
  refine lv_aload_n hx hb dL_law_554 rfl (lv_at hl 4 rfl) ?_
  refine lv_iload hx hb dL_law_555 (lv_at hl 0 rfl) ?_
  refine lv_iconst (v := 3) hx hb dL_law_557 (by decide) ?_
  refine lv_iadd hx hb dL_law_558 ?_
  refine gx_top (v := nI (n + 3)) (by rw [show (3 : Int32) = nI 3 from rfl, nI_add]) ?_
  refine va_sld (i := nI (n + 3)) hx hb hX hbl hbA hw.2 (vp_in_nI (by omega) (by omega)) dL_law_559 ?_
  refine gx_top (v := xs (n + 3)) (by rw [nI_clamp (by omega)]) ?_
  refine lv_aload_n hx hb dL_law_560 rfl (lv_at hl 4 rfl) ?_
  refine lv_iload hx hb dL_law_561 (lv_at hl 0 rfl) ?_
  refine lv_iconst (v := 4) hx hb dL_law_563 (by decide) ?_
  refine lv_iadd hx hb dL_law_564 ?_
  refine gx_top (v := nI (n + 4)) (by rw [show (4 : Int32) = nI 4 from rfl, nI_add]) ?_
  refine va_sld (i := nI (n + 4)) hx hb hX hbl hbA hw.2 (vp_in_nI (by omega) (by omega)) dL_law_565 ?_
  refine gx_top (v := xs (n + 4)) (by rw [nI_clamp (by omega)]) ?_
  refine gx_cVi (As := [.int (xs (n + 1)), .int (xs (n + 2)), .int (xs (n + 3)), .int (xs (n + 4))]) (rest := []) S hK hA hw (c_X12_put l (E := E) N σ_1 τ_1 (xs (n + 1)) (xs (n + 2)) (xs (n + 3)) (xs (n + 4)) q_2) cw_L_75 t_199 cl_13 ⟨Nat.le_of_ble_eq_true rfl, Nat.le_of_ble_eq_true rfl⟩ rfl hl.1 rfl (Nat.le_of_ble_eq_true rfl) ⟨by show cells + 0 ≤ 601024; omega, by show slots + 0 ≤ 7293034; omega⟩ dL_law_566 (fun r9 σ9 τ9 H locs hp hw => ?_)
  obtain ⟨rfl, rfl, rfl⟩ := hp
  refine lv_pop hx hb dL_law_569 rfl ?_
  refine lv_goto (tgt := 1662) hx hb dL_law_570 (by decide) ?_
  refine W.widen (k := cells + 60) (n := slots + 1000) (by omega) (by omega) ?_
  exact kk _ _ _ _ _ hZ hw (lv_sub hl [0, 1, 2, 3, 4] rfl)
set_option maxHeartbeats 4000000 in
set_option maxRecDepth 100000 in
theorem lc_11 (l : Launch) (hl9 : l.stackTraces = false) (S : CallFix P9 m9 C9 cL_law 8 s #[Value.ref b] gx_G RL) (hK : gx_K E s) (hT9 : gx_T s) (hA : gx_Ok gx_tb 0 E s) (hX : va_X b L xs s s.heap) (hbl : b < s.heap.size) (hbA : ¬ gx_A 0 E.2.2 s.heap.size b) (N : Nat) (hN : 4294967296 ≤ N) (hL : L ≤ 3072) (hn : n + 6 ≤ L) (hc : cells + 60 ≤ 601024) (hs : slots + 1000 ≤ 7293034) (hw : gx_W gx_tb 0 E s σ τ H locs) (hl : lv_has ls 8 [(4, .int (nI n)), (3, .ref (E.2.2 + 233)), (2, .ref (E.2.2 + 199)), (1, .ref (E.2.2 + 0)), (0, .ref b)]) (kk : ∀ (σ : gI) (τ : gJ) (H : Heap) (locs : List Loc) (ls : Array Slot), Z σ τ → gx_W gx_tb 0 E s σ τ H locs → lv_has ls 8 [(4, .int (nI n)), (3, .ref (E.2.2 + 233)), (2, .ref (E.2.2 + 199)), (1, .ref (E.2.2 + 0)), (0, .ref b)] → W P9 l e9 room_1 s m9 #[Value.ref b] below meth C9 H locs (cells + 60) (slots + 1000) Q (F0 m9 1662 ls [])) (hq : okp (fun r1 σ1 τ1 => okp (fun r2 σ2 τ2 => Z σ2 τ2) (B_X12_give_0 N σ1 τ1 (xs (n + 1)) (xs (n + 2)))) (B_X11_give_0 N σ τ (xs (n + 1)) (xs (n + 2)))) : W P9 l e9 room_1 s m9 #[Value.ref b] below meth C9 H locs cells slots Q (F0 m9 573 ls []) := by
  have hx := S.1
  have hb := S.2.1
  obtain ⟨r_1, σ_1, τ_1, q_1, h_1⟩ := hq
  obtain ⟨r_2, σ_2, τ_2, q_2, hZ⟩ := h_1
  refine lv_aload_n hx hb dL_law_573 rfl (lv_at hl 3 rfl) ?_
  refine lv_aload_n hx hb dL_law_574 rfl (lv_at hl 4 rfl) ?_
  refine lv_iload hx hb dL_law_575 (lv_at hl 0 rfl) ?_
  refine lv_iconst (v := 1) hx hb dL_law_577 (by decide) ?_
  refine lv_iadd hx hb dL_law_578 ?_
  refine gx_top (v := nI (n + 1)) (by rw [show (1 : Int32) = nI 1 from rfl, nI_add]) ?_
  refine va_sld (i := nI (n + 1)) hx hb hX hbl hbA hw.2 (vp_in_nI (by omega) (by omega)) dL_law_579 ?_
  refine gx_top (v := xs (n + 1)) (by rw [nI_clamp (by omega)]) ?_
  refine lv_aload_n hx hb dL_law_580 rfl (lv_at hl 4 rfl) ?_
  refine lv_iload hx hb dL_law_581 (lv_at hl 0 rfl) ?_
  refine lv_iconst (v := 2) hx hb dL_law_583 (by decide) ?_
  refine lv_iadd hx hb dL_law_584 ?_
  refine gx_top (v := nI (n + 2)) (by rw [show (2 : Int32) = nI 2 from rfl, nI_add]) ?_
  refine va_sld (i := nI (n + 2)) hx hb hX hbl hbA hw.2 (vp_in_nI (by omega) (by omega)) dL_law_585 ?_
  refine gx_top (v := xs (n + 2)) (by rw [nI_clamp (by omega)]) ?_
  refine gx_cVi (As := [.int (xs (n + 1)), .int (xs (n + 2))]) (rest := []) S hK hA hw (c_X11_give l (E := E) N σ τ (xs (n + 1)) (xs (n + 2)) q_1) cw_L_76 t_0 cl_12 ⟨Nat.le_of_ble_eq_true rfl, Nat.le_of_ble_eq_true rfl⟩ rfl hl.1 rfl (Nat.le_of_ble_eq_true rfl) ⟨by show cells + 0 ≤ 601024; omega, by show slots + 0 ≤ 7293034; omega⟩ dL_law_586 (fun r9 σ9 τ9 H locs hp hw => ?_)
  obtain ⟨rfl, rfl, rfl⟩ := hp
  refine lv_pop hx hb dL_law_589 rfl ?_
  refine lv_aload_n hx hb dL_law_590 rfl (lv_at hl 2 rfl) ?_
  refine lv_aload_n hx hb dL_law_591 rfl (lv_at hl 4 rfl) ?_
  refine lv_iload hx hb dL_law_592 (lv_at hl 0 rfl) ?_
  refine lv_iconst (v := 1) hx hb dL_law_594 (by decide) ?_
  refine lv_iadd hx hb dL_law_595 ?_
  refine gx_top (v := nI (n + 1)) (by rw [show (1 : Int32) = nI 1 from rfl, nI_add]) ?_
  refine va_sld (i := nI (n + 1)) hx hb hX hbl hbA hw.2 (vp_in_nI (by omega) (by omega)) dL_law_596 ?_
  refine gx_top (v := xs (n + 1)) (by rw [nI_clamp (by omega)]) ?_
  refine lv_aload_n hx hb dL_law_597 rfl (lv_at hl 4 rfl) ?_
  refine lv_iload hx hb dL_law_598 (lv_at hl 0 rfl) ?_
  refine lv_iconst (v := 2) hx hb dL_law_600 (by decide) ?_
  refine lv_iadd hx hb dL_law_601 ?_
  refine gx_top (v := nI (n + 2)) (by rw [show (2 : Int32) = nI 2 from rfl, nI_add]) ?_
  refine va_sld (i := nI (n + 2)) hx hb hX hbl hbA hw.2 (vp_in_nI (by omega) (by omega)) dL_law_602 ?_
  refine gx_top (v := xs (n + 2)) (by rw [nI_clamp (by omega)]) ?_
  refine gx_cVi (As := [.int (xs (n + 1)), .int (xs (n + 2))]) (rest := []) S hK hA hw (c_X12_give l (E := E) N σ_1 τ_1 (xs (n + 1)) (xs (n + 2)) q_2) cw_L_79 t_199 cl_13 ⟨Nat.le_of_ble_eq_true rfl, Nat.le_of_ble_eq_true rfl⟩ rfl hl.1 rfl (Nat.le_of_ble_eq_true rfl) ⟨by show cells + 0 ≤ 601024; omega, by show slots + 0 ≤ 7293034; omega⟩ dL_law_603 (fun r9 σ9 τ9 H locs hp hw => ?_)
  obtain ⟨rfl, rfl, rfl⟩ := hp
  refine lv_pop hx hb dL_law_606 rfl ?_
  refine lv_goto (tgt := 1662) hx hb dL_law_607 (by decide) ?_
  refine W.widen (k := cells + 60) (n := slots + 1000) (by omega) (by omega) ?_
  exact kk _ _ _ _ _ hZ hw (lv_sub hl [0, 1, 2, 3, 4] rfl)
set_option maxHeartbeats 4000000 in
set_option maxRecDepth 100000 in
theorem lc_12 (l : Launch) (hl9 : l.stackTraces = false) (S : CallFix P9 m9 C9 cL_law 8 s #[Value.ref b] gx_G RL) (hK : gx_K E s) (hT9 : gx_T s) (hA : gx_Ok gx_tb 0 E s) (hX : va_X b L xs s s.heap) (hbl : b < s.heap.size) (hbA : ¬ gx_A 0 E.2.2 s.heap.size b) (N : Nat) (hN : 4294967296 ≤ N) (hL : L ≤ 3072) (hn : n + 6 ≤ L) (hc : cells + 60 ≤ 601024) (hs : slots + 1000 ≤ 7293034) (hw : gx_W gx_tb 0 E s σ τ H locs) (hl : lv_has ls 8 [(4, .int (nI n)), (3, .ref (E.2.2 + 233)), (2, .ref (E.2.2 + 199)), (1, .ref (E.2.2 + 0)), (0, .ref b)]) (kk : ∀ (σ : gI) (τ : gJ) (H : Heap) (locs : List Loc) (ls : Array Slot), Z σ τ → gx_W gx_tb 0 E s σ τ H locs → lv_has ls 8 [(4, .int (nI n)), (3, .ref (E.2.2 + 233)), (2, .ref (E.2.2 + 199)), (1, .ref (E.2.2 + 0)), (0, .ref b)] → W P9 l e9 room_1 s m9 #[Value.ref b] below meth C9 H locs (cells + 60) (slots + 1000) Q (F0 m9 1662 ls [])) (hq : okp (fun r1 σ1 τ1 => okp (fun r2 σ2 τ2 => Z σ2 τ2) (B_X12_run_0 N σ1 τ1 (xs (n + 1)))) (B_X11_run_0 N σ τ (xs (n + 1)))) : W P9 l e9 room_1 s m9 #[Value.ref b] below meth C9 H locs cells slots Q (F0 m9 610 ls []) := by
  have hx := S.1
  have hb := S.2.1
  obtain ⟨r_1, σ_1, τ_1, q_1, h_1⟩ := hq
  obtain ⟨r_2, σ_2, τ_2, q_2, hZ⟩ := h_1
  refine lv_aload_n hx hb dL_law_610 rfl (lv_at hl 3 rfl) ?_
  refine lv_aload_n hx hb dL_law_611 rfl (lv_at hl 4 rfl) ?_
  refine lv_iload hx hb dL_law_612 (lv_at hl 0 rfl) ?_
  refine lv_iconst (v := 1) hx hb dL_law_614 (by decide) ?_
  refine lv_iadd hx hb dL_law_615 ?_
  refine gx_top (v := nI (n + 1)) (by rw [show (1 : Int32) = nI 1 from rfl, nI_add]) ?_
  refine va_sld (i := nI (n + 1)) hx hb hX hbl hbA hw.2 (vp_in_nI (by omega) (by omega)) dL_law_616 ?_
  refine gx_top (v := xs (n + 1)) (by rw [nI_clamp (by omega)]) ?_
  refine gx_cVi (As := [.int (xs (n + 1))]) (rest := []) S hK hA hw (c_X11_run l (E := E) N σ τ (xs (n + 1)) q_1) cw_L_80 t_0 cl_12 ⟨Nat.le_of_ble_eq_true rfl, Nat.le_of_ble_eq_true rfl⟩ rfl hl.1 rfl (Nat.le_of_ble_eq_true rfl) ⟨by show cells + 0 ≤ 601024; omega, by show slots + 0 ≤ 7293034; omega⟩ dL_law_617 (fun r9 σ9 τ9 H locs hp hw => ?_)
  obtain ⟨rfl, rfl, rfl⟩ := hp
  refine lv_pop hx hb dL_law_620 rfl ?_
  refine lv_aload_n hx hb dL_law_621 rfl (lv_at hl 2 rfl) ?_
  refine lv_aload_n hx hb dL_law_622 rfl (lv_at hl 4 rfl) ?_
  refine lv_iload hx hb dL_law_623 (lv_at hl 0 rfl) ?_
  refine lv_iconst (v := 1) hx hb dL_law_625 (by decide) ?_
  refine lv_iadd hx hb dL_law_626 ?_
  refine gx_top (v := nI (n + 1)) (by rw [show (1 : Int32) = nI 1 from rfl, nI_add]) ?_
  refine va_sld (i := nI (n + 1)) hx hb hX hbl hbA hw.2 (vp_in_nI (by omega) (by omega)) dL_law_627 ?_
  refine gx_top (v := xs (n + 1)) (by rw [nI_clamp (by omega)]) ?_
  refine gx_cVi (As := [.int (xs (n + 1))]) (rest := []) S hK hA hw (c_X12_run l (E := E) N σ_1 τ_1 (xs (n + 1)) q_2) cw_L_83 t_199 cl_13 ⟨Nat.le_of_ble_eq_true rfl, Nat.le_of_ble_eq_true rfl⟩ rfl hl.1 rfl (Nat.le_of_ble_eq_true rfl) ⟨by show cells + 0 ≤ 601024; omega, by show slots + 0 ≤ 7293034; omega⟩ dL_law_628 (fun r9 σ9 τ9 H locs hp hw => ?_)
  obtain ⟨rfl, rfl, rfl⟩ := hp
  refine lv_pop hx hb dL_law_631 rfl ?_
  refine lv_goto (tgt := 1662) hx hb dL_law_632 (by decide) ?_
  refine W.widen (k := cells + 60) (n := slots + 1000) (by omega) (by omega) ?_
  exact kk _ _ _ _ _ hZ hw (lv_sub hl [0, 1, 2, 3, 4] rfl)
set_option maxHeartbeats 4000000 in
set_option maxRecDepth 100000 in
theorem lc_13 (l : Launch) (hl9 : l.stackTraces = false) (S : CallFix P9 m9 C9 cL_law 8 s #[Value.ref b] gx_G RL) (hK : gx_K E s) (hT9 : gx_T s) (hA : gx_Ok gx_tb 0 E s) (hX : va_X b L xs s s.heap) (hbl : b < s.heap.size) (hbA : ¬ gx_A 0 E.2.2 s.heap.size b) (N : Nat) (hN : 4294967296 ≤ N) (hL : L ≤ 3072) (hn : n + 6 ≤ L) (hc : cells + 60 ≤ 601024) (hs : slots + 1000 ≤ 7293034) (hw : gx_W gx_tb 0 E s σ τ H locs) (hl : lv_has ls 8 [(4, .int (nI n)), (3, .ref (E.2.2 + 233)), (2, .ref (E.2.2 + 199)), (1, .ref (E.2.2 + 0)), (0, .ref b)]) (kk : ∀ (σ : gI) (τ : gJ) (H : Heap) (locs : List Loc) (ls : Array Slot), Z σ τ → gx_W gx_tb 0 E s σ τ H locs → lv_has ls 8 [(4, .int (nI n)), (3, .ref (E.2.2 + 233)), (2, .ref (E.2.2 + 199)), (1, .ref (E.2.2 + 0)), (0, .ref b)] → W P9 l e9 room_1 s m9 #[Value.ref b] below meth C9 H locs (cells + 60) (slots + 1000) Q (F0 m9 1662 ls [])) (hq : okp (fun r1 σ1 τ1 => okp (fun r2 σ2 τ2 => Z σ2 τ2) (B_X12_day_0 N σ1 τ1)) (B_X11_day_0 N σ τ)) : W P9 l e9 room_1 s m9 #[Value.ref b] below meth C9 H locs cells slots Q (F0 m9 635 ls []) := by
  have hx := S.1
  have hb := S.2.1
  obtain ⟨r_1, σ_1, τ_1, q_1, h_1⟩ := hq
  obtain ⟨r_2, σ_2, τ_2, q_2, hZ⟩ := h_1
  refine lv_aload_n hx hb dL_law_635 rfl (lv_at hl 3 rfl) ?_
  refine gx_cVi (As := []) (rest := []) S hK hA hw (c_X11_day l (E := E) N σ τ q_1) cw_L_84 t_0 cl_12 ⟨Nat.le_of_ble_eq_true rfl, Nat.le_of_ble_eq_true rfl⟩ rfl hl.1 rfl (Nat.le_of_ble_eq_true rfl) ⟨by show cells + 0 ≤ 601024; omega, by show slots + 0 ≤ 7293034; omega⟩ dL_law_636 (fun r9 σ9 τ9 H locs hp hw => ?_)
  obtain ⟨rfl, rfl, rfl⟩ := hp
  refine lv_pop hx hb dL_law_639 rfl ?_
  refine lv_aload_n hx hb dL_law_640 rfl (lv_at hl 2 rfl) ?_
  refine gx_cVi (As := []) (rest := []) S hK hA hw (c_X12_day l (E := E) N σ_1 τ_1 q_2) cw_L_87 t_199 cl_13 ⟨Nat.le_of_ble_eq_true rfl, Nat.le_of_ble_eq_true rfl⟩ rfl hl.1 rfl (Nat.le_of_ble_eq_true rfl) ⟨by show cells + 0 ≤ 601024; omega, by show slots + 0 ≤ 7293034; omega⟩ dL_law_641 (fun r9 σ9 τ9 H locs hp hw => ?_)
  obtain ⟨rfl, rfl, rfl⟩ := hp
  refine lv_pop hx hb dL_law_644 rfl ?_
  refine lv_goto (tgt := 1662) hx hb dL_law_645 (by decide) ?_
  refine W.widen (k := cells + 60) (n := slots + 1000) (by omega) (by omega) ?_
  exact kk _ _ _ _ _ hZ hw (lv_sub hl [0, 1, 2, 3, 4] rfl)
set_option maxHeartbeats 4000000 in
set_option maxRecDepth 100000 in
theorem lc_14 (l : Launch) (hl9 : l.stackTraces = false) (S : CallFix P9 m9 C9 cL_law 8 s #[Value.ref b] gx_G RL) (hK : gx_K E s) (hT9 : gx_T s) (hA : gx_Ok gx_tb 0 E s) (hX : va_X b L xs s s.heap) (hbl : b < s.heap.size) (hbA : ¬ gx_A 0 E.2.2 s.heap.size b) (N : Nat) (hN : 4294967296 ≤ N) (hL : L ≤ 3072) (hn : n + 6 ≤ L) (hc : cells + 60 ≤ 601024) (hs : slots + 1000 ≤ 7293034) (hw : gx_W gx_tb 0 E s σ τ H locs) (hl : lv_has ls 8 [(4, .int (nI n)), (3, .ref (E.2.2 + 233)), (2, .ref (E.2.2 + 199)), (1, .ref (E.2.2 + 0)), (0, .ref b)]) (kk : ∀ (σ : gI) (τ : gJ) (H : Heap) (locs : List Loc) (ls : Array Slot), Z σ τ → gx_W gx_tb 0 E s σ τ H locs → lv_has ls 8 [(4, .int (nI n)), (3, .ref (E.2.2 + 233)), (2, .ref (E.2.2 + 199)), (1, .ref (E.2.2 + 0)), (0, .ref b)] → W P9 l e9 room_1 s m9 #[Value.ref b] below meth C9 H locs (cells + 60) (slots + 1000) Q (F0 m9 1662 ls [])) (hq : okp (fun r1 σ1 τ1 => okp (fun r2 σ2 τ2 => Z σ2 τ2) (B_X12_undo_0 N σ1 τ1)) (B_X11_undo_0 N σ τ)) : W P9 l e9 room_1 s m9 #[Value.ref b] below meth C9 H locs cells slots Q (F0 m9 648 ls []) := by
  have hx := S.1
  have hb := S.2.1
  obtain ⟨r_1, σ_1, τ_1, q_1, h_1⟩ := hq
  obtain ⟨r_2, σ_2, τ_2, q_2, hZ⟩ := h_1
  refine lv_aload_n hx hb dL_law_648 rfl (lv_at hl 3 rfl) ?_
  refine gx_cVi (As := []) (rest := []) S hK hA hw (c_X11_undo l (E := E) N σ τ q_1) cw_L_88 t_0 cl_12 ⟨Nat.le_of_ble_eq_true rfl, Nat.le_of_ble_eq_true rfl⟩ rfl hl.1 rfl (Nat.le_of_ble_eq_true rfl) ⟨by show cells + 0 ≤ 601024; omega, by show slots + 0 ≤ 7293034; omega⟩ dL_law_649 (fun r9 σ9 τ9 H locs hp hw => ?_)
  obtain ⟨rfl, rfl, rfl⟩ := hp
  refine lv_pop hx hb dL_law_652 rfl ?_
  refine lv_aload_n hx hb dL_law_653 rfl (lv_at hl 2 rfl) ?_
  refine gx_cVi (As := []) (rest := []) S hK hA hw (c_X12_undo l (E := E) N σ_1 τ_1 q_2) cw_L_91 t_199 cl_13 ⟨Nat.le_of_ble_eq_true rfl, Nat.le_of_ble_eq_true rfl⟩ rfl hl.1 rfl (Nat.le_of_ble_eq_true rfl) ⟨by show cells + 0 ≤ 601024; omega, by show slots + 0 ≤ 7293034; omega⟩ dL_law_654 (fun r9 σ9 τ9 H locs hp hw => ?_)
  obtain ⟨rfl, rfl, rfl⟩ := hp
  refine lv_pop hx hb dL_law_657 rfl ?_
  refine lv_goto (tgt := 1662) hx hb dL_law_658 (by decide) ?_
  refine W.widen (k := cells + 60) (n := slots + 1000) (by omega) (by omega) ?_
  exact kk _ _ _ _ _ hZ hw (lv_sub hl [0, 1, 2, 3, 4] rfl)
set_option maxHeartbeats 4000000 in
set_option maxRecDepth 100000 in
theorem lc_15 (l : Launch) (hl9 : l.stackTraces = false) (S : CallFix P9 m9 C9 cL_law 8 s #[Value.ref b] gx_G RL) (hK : gx_K E s) (hT9 : gx_T s) (hA : gx_Ok gx_tb 0 E s) (hX : va_X b L xs s s.heap) (hbl : b < s.heap.size) (hbA : ¬ gx_A 0 E.2.2 s.heap.size b) (N : Nat) (hN : 4294967296 ≤ N) (hL : L ≤ 3072) (hn : n + 6 ≤ L) (hc : cells + 60 ≤ 601024) (hs : slots + 1000 ≤ 7293034) (hw : gx_W gx_tb 0 E s σ τ H locs) (hl : lv_has ls 8 [(4, .int (nI n)), (3, .ref (E.2.2 + 233)), (2, .ref (E.2.2 + 199)), (1, .ref (E.2.2 + 0)), (0, .ref b)]) (kk : ∀ (σ : gI) (τ : gJ) (H : Heap) (locs : List Loc) (ls : Array Slot), Z σ τ → gx_W gx_tb 0 E s σ τ H locs → lv_has ls 8 [(4, .int (nI n)), (3, .ref (E.2.2 + 233)), (2, .ref (E.2.2 + 199)), (1, .ref (E.2.2 + 0)), (0, .ref b)] → W P9 l e9 room_1 s m9 #[Value.ref b] below meth C9 H locs (cells + 60) (slots + 1000) Q (F0 m9 1662 ls [])) (hq : okp (fun r1 σ1 τ1 => okp (fun r2 σ2 τ2 => Z σ2 τ2) (B_X12_where_0 N σ1 τ1 (xs (n + 1)) (xs (n + 2)))) (B_X11_where_0 N σ τ (xs (n + 1)) (xs (n + 2)))) : W P9 l e9 room_1 s m9 #[Value.ref b] below meth C9 H locs cells slots Q (F0 m9 661 ls []) := by
  have hx := S.1
  have hb := S.2.1
  obtain ⟨r_1, σ_1, τ_1, q_1, h_1⟩ := hq
  obtain ⟨r_2, σ_2, τ_2, q_2, hZ⟩ := h_1
  refine lv_aload_n hx hb dL_law_661 rfl (lv_at hl 3 rfl) ?_
  refine lv_aload_n hx hb dL_law_662 rfl (lv_at hl 4 rfl) ?_
  refine lv_iload hx hb dL_law_663 (lv_at hl 0 rfl) ?_
  refine lv_iconst (v := 1) hx hb dL_law_665 (by decide) ?_
  refine lv_iadd hx hb dL_law_666 ?_
  refine gx_top (v := nI (n + 1)) (by rw [show (1 : Int32) = nI 1 from rfl, nI_add]) ?_
  refine va_sld (i := nI (n + 1)) hx hb hX hbl hbA hw.2 (vp_in_nI (by omega) (by omega)) dL_law_667 ?_
  refine gx_top (v := xs (n + 1)) (by rw [nI_clamp (by omega)]) ?_
  refine lv_aload_n hx hb dL_law_668 rfl (lv_at hl 4 rfl) ?_
  refine lv_iload hx hb dL_law_669 (lv_at hl 0 rfl) ?_
  refine lv_iconst (v := 2) hx hb dL_law_671 (by decide) ?_
  refine lv_iadd hx hb dL_law_672 ?_
  refine gx_top (v := nI (n + 2)) (by rw [show (2 : Int32) = nI 2 from rfl, nI_add]) ?_
  refine va_sld (i := nI (n + 2)) hx hb hX hbl hbA hw.2 (vp_in_nI (by omega) (by omega)) dL_law_673 ?_
  refine gx_top (v := xs (n + 2)) (by rw [nI_clamp (by omega)]) ?_
  refine gx_cVi (As := [.int (xs (n + 1)), .int (xs (n + 2))]) (rest := []) S hK hA hw (c_X11_where l (E := E) N σ τ (xs (n + 1)) (xs (n + 2)) q_1) cw_L_92 t_0 cl_12 ⟨Nat.le_of_ble_eq_true rfl, Nat.le_of_ble_eq_true rfl⟩ rfl hl.1 rfl (Nat.le_of_ble_eq_true rfl) ⟨by show cells + 0 ≤ 601024; omega, by show slots + 0 ≤ 7293034; omega⟩ dL_law_674 (fun r9 σ9 τ9 H locs hp hw => ?_)
  obtain ⟨rfl, rfl, rfl⟩ := hp
  refine lv_pop hx hb dL_law_677 rfl ?_
  refine lv_aload_n hx hb dL_law_678 rfl (lv_at hl 2 rfl) ?_
  refine lv_aload_n hx hb dL_law_679 rfl (lv_at hl 4 rfl) ?_
  refine lv_iload hx hb dL_law_680 (lv_at hl 0 rfl) ?_
  refine lv_iconst (v := 1) hx hb dL_law_682 (by decide) ?_
  refine lv_iadd hx hb dL_law_683 ?_
  refine gx_top (v := nI (n + 1)) (by rw [show (1 : Int32) = nI 1 from rfl, nI_add]) ?_
  refine va_sld (i := nI (n + 1)) hx hb hX hbl hbA hw.2 (vp_in_nI (by omega) (by omega)) dL_law_684 ?_
  refine gx_top (v := xs (n + 1)) (by rw [nI_clamp (by omega)]) ?_
  refine lv_aload_n hx hb dL_law_685 rfl (lv_at hl 4 rfl) ?_
  refine lv_iload hx hb dL_law_686 (lv_at hl 0 rfl) ?_
  refine lv_iconst (v := 2) hx hb dL_law_688 (by decide) ?_
  refine lv_iadd hx hb dL_law_689 ?_
  refine gx_top (v := nI (n + 2)) (by rw [show (2 : Int32) = nI 2 from rfl, nI_add]) ?_
  refine va_sld (i := nI (n + 2)) hx hb hX hbl hbA hw.2 (vp_in_nI (by omega) (by omega)) dL_law_690 ?_
  refine gx_top (v := xs (n + 2)) (by rw [nI_clamp (by omega)]) ?_
  refine gx_cVi (As := [.int (xs (n + 1)), .int (xs (n + 2))]) (rest := []) S hK hA hw (c_X12_where l (E := E) N σ_1 τ_1 (xs (n + 1)) (xs (n + 2)) q_2) cw_L_95 t_199 cl_13 ⟨Nat.le_of_ble_eq_true rfl, Nat.le_of_ble_eq_true rfl⟩ rfl hl.1 rfl (Nat.le_of_ble_eq_true rfl) ⟨by show cells + 0 ≤ 601024; omega, by show slots + 0 ≤ 7293034; omega⟩ dL_law_691 (fun r9 σ9 τ9 H locs hp hw => ?_)
  obtain ⟨rfl, rfl, rfl⟩ := hp
  refine lv_pop hx hb dL_law_694 rfl ?_
  refine lv_goto (tgt := 1662) hx hb dL_law_695 (by decide) ?_
  refine W.widen (k := cells + 60) (n := slots + 1000) (by omega) (by omega) ?_
  exact kk _ _ _ _ _ hZ hw (lv_sub hl [0, 1, 2, 3, 4] rfl)
set_option maxHeartbeats 4000000 in
set_option maxRecDepth 100000 in
theorem lc_16 (l : Launch) (hl9 : l.stackTraces = false) (S : CallFix P9 m9 C9 cL_law 8 s #[Value.ref b] gx_G RL) (hK : gx_K E s) (hT9 : gx_T s) (hA : gx_Ok gx_tb 0 E s) (hX : va_X b L xs s s.heap) (hbl : b < s.heap.size) (hbA : ¬ gx_A 0 E.2.2 s.heap.size b) (N : Nat) (hN : 4294967296 ≤ N) (hL : L ≤ 3072) (hn : n + 6 ≤ L) (hc : cells + 60 ≤ 601024) (hs : slots + 1000 ≤ 7293034) (hw : gx_W gx_tb 0 E s σ τ H locs) (hl : lv_has ls 8 [(4, .int (nI n)), (3, .ref (E.2.2 + 233)), (2, .ref (E.2.2 + 199)), (1, .ref (E.2.2 + 0)), (0, .ref b)]) (kk : ∀ (σ : gI) (τ : gJ) (H : Heap) (locs : List Loc) (ls : Array Slot), Z σ τ → gx_W gx_tb 0 E s σ τ H locs → lv_has ls 8 [(4, .int (nI n)), (3, .ref (E.2.2 + 233)), (2, .ref (E.2.2 + 199)), (1, .ref (E.2.2 + 0)), (0, .ref b)] → W P9 l e9 room_1 s m9 #[Value.ref b] below meth C9 H locs (cells + 60) (slots + 1000) Q (F0 m9 1662 ls [])) (hq : okp (fun r1 σ1 τ1 => okp (fun r2 σ2 τ2 => Z σ2 τ2) (B_X12_comes_0 N σ1 τ1 (xs (n + 1)))) (B_X11_comes_0 N σ τ (xs (n + 1)))) : W P9 l e9 room_1 s m9 #[Value.ref b] below meth C9 H locs cells slots Q (F0 m9 698 ls []) := by
  have hx := S.1
  have hb := S.2.1
  obtain ⟨r_1, σ_1, τ_1, q_1, h_1⟩ := hq
  obtain ⟨r_2, σ_2, τ_2, q_2, hZ⟩ := h_1
  refine lv_aload_n hx hb dL_law_698 rfl (lv_at hl 3 rfl) ?_
  refine lv_aload_n hx hb dL_law_699 rfl (lv_at hl 4 rfl) ?_
  refine lv_iload hx hb dL_law_700 (lv_at hl 0 rfl) ?_
  refine lv_iconst (v := 1) hx hb dL_law_702 (by decide) ?_
  refine lv_iadd hx hb dL_law_703 ?_
  refine gx_top (v := nI (n + 1)) (by rw [show (1 : Int32) = nI 1 from rfl, nI_add]) ?_
  refine va_sld (i := nI (n + 1)) hx hb hX hbl hbA hw.2 (vp_in_nI (by omega) (by omega)) dL_law_704 ?_
  refine gx_top (v := xs (n + 1)) (by rw [nI_clamp (by omega)]) ?_
  refine gx_cVi (As := [.int (xs (n + 1))]) (rest := []) S hK hA hw (c_X11_comes l (E := E) N σ τ (xs (n + 1)) q_1) cw_L_96 t_0 cl_12 ⟨Nat.le_of_ble_eq_true rfl, Nat.le_of_ble_eq_true rfl⟩ rfl hl.1 rfl (Nat.le_of_ble_eq_true rfl) ⟨by show cells + 0 ≤ 601024; omega, by show slots + 0 ≤ 7293034; omega⟩ dL_law_705 (fun r9 σ9 τ9 H locs hp hw => ?_)
  obtain ⟨rfl, rfl, rfl⟩ := hp
  refine lv_pop hx hb dL_law_708 rfl ?_
  refine lv_aload_n hx hb dL_law_709 rfl (lv_at hl 2 rfl) ?_
  refine lv_aload_n hx hb dL_law_710 rfl (lv_at hl 4 rfl) ?_
  refine lv_iload hx hb dL_law_711 (lv_at hl 0 rfl) ?_
  refine lv_iconst (v := 1) hx hb dL_law_713 (by decide) ?_
  refine lv_iadd hx hb dL_law_714 ?_
  refine gx_top (v := nI (n + 1)) (by rw [show (1 : Int32) = nI 1 from rfl, nI_add]) ?_
  refine va_sld (i := nI (n + 1)) hx hb hX hbl hbA hw.2 (vp_in_nI (by omega) (by omega)) dL_law_715 ?_
  refine gx_top (v := xs (n + 1)) (by rw [nI_clamp (by omega)]) ?_
  refine gx_cVi (As := [.int (xs (n + 1))]) (rest := []) S hK hA hw (c_X12_comes l (E := E) N σ_1 τ_1 (xs (n + 1)) q_2) cw_L_99 t_199 cl_13 ⟨Nat.le_of_ble_eq_true rfl, Nat.le_of_ble_eq_true rfl⟩ rfl hl.1 rfl (Nat.le_of_ble_eq_true rfl) ⟨by show cells + 0 ≤ 601024; omega, by show slots + 0 ≤ 7293034; omega⟩ dL_law_716 (fun r9 σ9 τ9 H locs hp hw => ?_)
  obtain ⟨rfl, rfl, rfl⟩ := hp
  refine lv_pop hx hb dL_law_719 rfl ?_
  refine lv_goto (tgt := 1662) hx hb dL_law_720 (by decide) ?_
  refine W.widen (k := cells + 60) (n := slots + 1000) (by omega) (by omega) ?_
  exact kk _ _ _ _ _ hZ hw (lv_sub hl [0, 1, 2, 3, 4] rfl)
set_option maxHeartbeats 4000000 in
set_option maxRecDepth 100000 in
theorem lc_17 (l : Launch) (hl9 : l.stackTraces = false) (S : CallFix P9 m9 C9 cL_law 8 s #[Value.ref b] gx_G RL) (hK : gx_K E s) (hT9 : gx_T s) (hA : gx_Ok gx_tb 0 E s) (hX : va_X b L xs s s.heap) (hbl : b < s.heap.size) (hbA : ¬ gx_A 0 E.2.2 s.heap.size b) (N : Nat) (hN : 4294967296 ≤ N) (hL : L ≤ 3072) (hn : n + 6 ≤ L) (hc : cells + 60 ≤ 601024) (hs : slots + 1000 ≤ 7293034) (hw : gx_W gx_tb 0 E s σ τ H locs) (hl : lv_has ls 8 [(4, .int (nI n)), (3, .ref (E.2.2 + 233)), (2, .ref (E.2.2 + 199)), (1, .ref (E.2.2 + 0)), (0, .ref b)]) (kk : ∀ (σ : gI) (τ : gJ) (H : Heap) (locs : List Loc) (ls : Array Slot), Z σ τ → gx_W gx_tb 0 E s σ τ H locs → lv_has ls 8 [(4, .int (nI n)), (3, .ref (E.2.2 + 233)), (2, .ref (E.2.2 + 199)), (1, .ref (E.2.2 + 0)), (0, .ref b)] → W P9 l e9 room_1 s m9 #[Value.ref b] below meth C9 H locs (cells + 60) (slots + 1000) Q (F0 m9 1662 ls [])) (hq : okp (fun r1 σ1 τ1 => okp (fun r2 σ2 τ2 => Z σ2 τ2) (B_X12_lost_0 N σ1 τ1 (xs (n + 1)))) (B_X11_lost_0 N σ τ (xs (n + 1)))) : W P9 l e9 room_1 s m9 #[Value.ref b] below meth C9 H locs cells slots Q (F0 m9 723 ls []) := by
  have hx := S.1
  have hb := S.2.1
  obtain ⟨r_1, σ_1, τ_1, q_1, h_1⟩ := hq
  obtain ⟨r_2, σ_2, τ_2, q_2, hZ⟩ := h_1
  refine lv_aload_n hx hb dL_law_723 rfl (lv_at hl 3 rfl) ?_
  refine lv_aload_n hx hb dL_law_724 rfl (lv_at hl 4 rfl) ?_
  refine lv_iload hx hb dL_law_725 (lv_at hl 0 rfl) ?_
  refine lv_iconst (v := 1) hx hb dL_law_727 (by decide) ?_
  refine lv_iadd hx hb dL_law_728 ?_
  refine gx_top (v := nI (n + 1)) (by rw [show (1 : Int32) = nI 1 from rfl, nI_add]) ?_
  refine va_sld (i := nI (n + 1)) hx hb hX hbl hbA hw.2 (vp_in_nI (by omega) (by omega)) dL_law_729 ?_
  refine gx_top (v := xs (n + 1)) (by rw [nI_clamp (by omega)]) ?_
  refine gx_cVi (As := [.int (xs (n + 1))]) (rest := []) S hK hA hw (c_X11_lost l (E := E) N σ τ (xs (n + 1)) q_1) cw_L_100 t_0 cl_12 ⟨Nat.le_of_ble_eq_true rfl, Nat.le_of_ble_eq_true rfl⟩ rfl hl.1 rfl (Nat.le_of_ble_eq_true rfl) ⟨by show cells + 0 ≤ 601024; omega, by show slots + 0 ≤ 7293034; omega⟩ dL_law_730 (fun r9 σ9 τ9 H locs hp hw => ?_)
  obtain ⟨rfl, rfl, rfl⟩ := hp
  refine lv_pop hx hb dL_law_733 rfl ?_
  refine lv_aload_n hx hb dL_law_734 rfl (lv_at hl 2 rfl) ?_
  refine lv_aload_n hx hb dL_law_735 rfl (lv_at hl 4 rfl) ?_
  refine lv_iload hx hb dL_law_736 (lv_at hl 0 rfl) ?_
  refine lv_iconst (v := 1) hx hb dL_law_738 (by decide) ?_
  refine lv_iadd hx hb dL_law_739 ?_
  refine gx_top (v := nI (n + 1)) (by rw [show (1 : Int32) = nI 1 from rfl, nI_add]) ?_
  refine va_sld (i := nI (n + 1)) hx hb hX hbl hbA hw.2 (vp_in_nI (by omega) (by omega)) dL_law_740 ?_
  refine gx_top (v := xs (n + 1)) (by rw [nI_clamp (by omega)]) ?_
  refine gx_cVi (As := [.int (xs (n + 1))]) (rest := []) S hK hA hw (c_X12_lost l (E := E) N σ_1 τ_1 (xs (n + 1)) q_2) cw_L_103 t_199 cl_13 ⟨Nat.le_of_ble_eq_true rfl, Nat.le_of_ble_eq_true rfl⟩ rfl hl.1 rfl (Nat.le_of_ble_eq_true rfl) ⟨by show cells + 0 ≤ 601024; omega, by show slots + 0 ≤ 7293034; omega⟩ dL_law_741 (fun r9 σ9 τ9 H locs hp hw => ?_)
  obtain ⟨rfl, rfl, rfl⟩ := hp
  refine lv_pop hx hb dL_law_744 rfl ?_
  refine lv_goto (tgt := 1662) hx hb dL_law_745 (by decide) ?_
  refine W.widen (k := cells + 60) (n := slots + 1000) (by omega) (by omega) ?_
  exact kk _ _ _ _ _ hZ hw (lv_sub hl [0, 1, 2, 3, 4] rfl)
set_option maxHeartbeats 4000000 in
set_option maxRecDepth 100000 in
theorem lc_18 (l : Launch) (hl9 : l.stackTraces = false) (S : CallFix P9 m9 C9 cL_law 8 s #[Value.ref b] gx_G RL) (hK : gx_K E s) (hT9 : gx_T s) (hA : gx_Ok gx_tb 0 E s) (hX : va_X b L xs s s.heap) (hbl : b < s.heap.size) (hbA : ¬ gx_A 0 E.2.2 s.heap.size b) (N : Nat) (hN : 4294967296 ≤ N) (hL : L ≤ 3072) (hn : n + 6 ≤ L) (hc : cells + 60 ≤ 601024) (hs : slots + 1000 ≤ 7293034) (hw : gx_W gx_tb 0 E s σ τ H locs) (hl : lv_has ls 8 [(4, .int (nI n)), (3, .ref (E.2.2 + 233)), (2, .ref (E.2.2 + 199)), (1, .ref (E.2.2 + 0)), (0, .ref b)]) (kk : ∀ (σ : gI) (τ : gJ) (H : Heap) (locs : List Loc) (ls : Array Slot), Z σ τ → gx_W gx_tb 0 E s σ τ H locs → lv_has ls 8 [(4, .int (nI n)), (3, .ref (E.2.2 + 233)), (2, .ref (E.2.2 + 199)), (1, .ref (E.2.2 + 0)), (0, .ref b)] → W P9 l e9 room_1 s m9 #[Value.ref b] below meth C9 H locs (cells + 60) (slots + 1000) Q (F0 m9 1662 ls [])) (hq : okp (fun r1 σ1 τ1 => okp (fun r2 σ2 τ2 => Z σ2 τ2) (B_X12_homes_0 N σ1 τ1 (xs (n + 1)))) (B_X11_homes_0 N σ τ (xs (n + 1)))) : W P9 l e9 room_1 s m9 #[Value.ref b] below meth C9 H locs cells slots Q (F0 m9 748 ls []) := by
  have hx := S.1
  have hb := S.2.1
  obtain ⟨r_1, σ_1, τ_1, q_1, h_1⟩ := hq
  obtain ⟨r_2, σ_2, τ_2, q_2, hZ⟩ := h_1
  refine lv_aload_n hx hb dL_law_748 rfl (lv_at hl 3 rfl) ?_
  refine lv_aload_n hx hb dL_law_749 rfl (lv_at hl 4 rfl) ?_
  refine lv_iload hx hb dL_law_750 (lv_at hl 0 rfl) ?_
  refine lv_iconst (v := 1) hx hb dL_law_752 (by decide) ?_
  refine lv_iadd hx hb dL_law_753 ?_
  refine gx_top (v := nI (n + 1)) (by rw [show (1 : Int32) = nI 1 from rfl, nI_add]) ?_
  refine va_sld (i := nI (n + 1)) hx hb hX hbl hbA hw.2 (vp_in_nI (by omega) (by omega)) dL_law_754 ?_
  refine gx_top (v := xs (n + 1)) (by rw [nI_clamp (by omega)]) ?_
  refine gx_cVi (As := [.int (xs (n + 1))]) (rest := []) S hK hA hw (c_X11_homes l (E := E) N σ τ (xs (n + 1)) q_1) cw_L_104 t_0 cl_12 ⟨Nat.le_of_ble_eq_true rfl, Nat.le_of_ble_eq_true rfl⟩ rfl hl.1 rfl (Nat.le_of_ble_eq_true rfl) ⟨by show cells + 0 ≤ 601024; omega, by show slots + 0 ≤ 7293034; omega⟩ dL_law_755 (fun r9 σ9 τ9 H locs hp hw => ?_)
  obtain ⟨rfl, rfl, rfl⟩ := hp
  refine lv_pop hx hb dL_law_758 rfl ?_
  refine lv_aload_n hx hb dL_law_759 rfl (lv_at hl 2 rfl) ?_
  refine lv_aload_n hx hb dL_law_760 rfl (lv_at hl 4 rfl) ?_
  refine lv_iload hx hb dL_law_761 (lv_at hl 0 rfl) ?_
  refine lv_iconst (v := 1) hx hb dL_law_763 (by decide) ?_
  refine lv_iadd hx hb dL_law_764 ?_
  refine gx_top (v := nI (n + 1)) (by rw [show (1 : Int32) = nI 1 from rfl, nI_add]) ?_
  refine va_sld (i := nI (n + 1)) hx hb hX hbl hbA hw.2 (vp_in_nI (by omega) (by omega)) dL_law_765 ?_
  refine gx_top (v := xs (n + 1)) (by rw [nI_clamp (by omega)]) ?_
  refine gx_cVi (As := [.int (xs (n + 1))]) (rest := []) S hK hA hw (c_X12_homes l (E := E) N σ_1 τ_1 (xs (n + 1)) q_2) cw_L_107 t_199 cl_13 ⟨Nat.le_of_ble_eq_true rfl, Nat.le_of_ble_eq_true rfl⟩ rfl hl.1 rfl (Nat.le_of_ble_eq_true rfl) ⟨by show cells + 0 ≤ 601024; omega, by show slots + 0 ≤ 7293034; omega⟩ dL_law_766 (fun r9 σ9 τ9 H locs hp hw => ?_)
  obtain ⟨rfl, rfl, rfl⟩ := hp
  refine lv_pop hx hb dL_law_769 rfl ?_
  refine lv_goto (tgt := 1662) hx hb dL_law_770 (by decide) ?_
  refine W.widen (k := cells + 60) (n := slots + 1000) (by omega) (by omega) ?_
  exact kk _ _ _ _ _ hZ hw (lv_sub hl [0, 1, 2, 3, 4] rfl)
set_option maxHeartbeats 4000000 in
set_option maxRecDepth 100000 in
theorem lc_19 (l : Launch) (hl9 : l.stackTraces = false) (S : CallFix P9 m9 C9 cL_law 8 s #[Value.ref b] gx_G RL) (hK : gx_K E s) (hT9 : gx_T s) (hA : gx_Ok gx_tb 0 E s) (hX : va_X b L xs s s.heap) (hbl : b < s.heap.size) (hbA : ¬ gx_A 0 E.2.2 s.heap.size b) (N : Nat) (hN : 4294967296 ≤ N) (hL : L ≤ 3072) (hn : n + 6 ≤ L) (hc : cells + 60 ≤ 601024) (hs : slots + 1000 ≤ 7293034) (hw : gx_W gx_tb 0 E s σ τ H locs) (hl : lv_has ls 8 [(4, .int (nI n)), (3, .ref (E.2.2 + 233)), (2, .ref (E.2.2 + 199)), (1, .ref (E.2.2 + 0)), (0, .ref b)]) (kk : ∀ (σ : gI) (τ : gJ) (H : Heap) (locs : List Loc) (ls : Array Slot), Z σ τ → gx_W gx_tb 0 E s σ τ H locs → lv_has ls 8 [(4, .int (nI n)), (3, .ref (E.2.2 + 233)), (2, .ref (E.2.2 + 199)), (1, .ref (E.2.2 + 0)), (0, .ref b)] → W P9 l e9 room_1 s m9 #[Value.ref b] below meth C9 H locs (cells + 60) (slots + 1000) Q (F0 m9 1662 ls [])) (hq : okp (fun r1 σ1 τ1 => okp (fun r2 σ2 τ2 => Z σ2 τ2) (B_X12_sail_0 N σ1 τ1 (xs (n + 1)) (xs (n + 2)) (xs (n + 3)) (xs (n + 4)) (xs (n + 5)))) (B_X11_sail_0 N σ τ (xs (n + 1)) (xs (n + 2)) (xs (n + 3)) (xs (n + 4)) (xs (n + 5)))) : W P9 l e9 room_1 s m9 #[Value.ref b] below meth C9 H locs cells slots Q (F0 m9 773 ls []) := by
  have hx := S.1
  have hb := S.2.1
  obtain ⟨r_1, σ_1, τ_1, q_1, h_1⟩ := hq
  obtain ⟨r_2, σ_2, τ_2, q_2, hZ⟩ := h_1
  refine lv_aload_n hx hb dL_law_773 rfl (lv_at hl 3 rfl) ?_
  refine lv_aload_n hx hb dL_law_774 rfl (lv_at hl 4 rfl) ?_
  refine lv_iload hx hb dL_law_775 (lv_at hl 0 rfl) ?_
  refine lv_iconst (v := 1) hx hb dL_law_777 (by decide) ?_
  refine lv_iadd hx hb dL_law_778 ?_
  refine gx_top (v := nI (n + 1)) (by rw [show (1 : Int32) = nI 1 from rfl, nI_add]) ?_
  refine va_sld (i := nI (n + 1)) hx hb hX hbl hbA hw.2 (vp_in_nI (by omega) (by omega)) dL_law_779 ?_
  refine gx_top (v := xs (n + 1)) (by rw [nI_clamp (by omega)]) ?_
  refine lv_aload_n hx hb dL_law_780 rfl (lv_at hl 4 rfl) ?_
  refine lv_iload hx hb dL_law_781 (lv_at hl 0 rfl) ?_
  refine lv_iconst (v := 2) hx hb dL_law_783 (by decide) ?_
  refine lv_iadd hx hb dL_law_784 ?_
  refine gx_top (v := nI (n + 2)) (by rw [show (2 : Int32) = nI 2 from rfl, nI_add]) ?_
  refine va_sld (i := nI (n + 2)) hx hb hX hbl hbA hw.2 (vp_in_nI (by omega) (by omega)) dL_law_785 ?_
  refine gx_top (v := xs (n + 2)) (by rw [nI_clamp (by omega)]) ?_
  refine lv_aload_n hx hb dL_law_786 rfl (lv_at hl 4 rfl) ?_
  refine lv_iload hx hb dL_law_787 (lv_at hl 0 rfl) ?_
  refine lv_iconst (v := 3) hx hb dL_law_789 (by decide) ?_
  refine lv_iadd hx hb dL_law_790 ?_
  refine gx_top (v := nI (n + 3)) (by rw [show (3 : Int32) = nI 3 from rfl, nI_add]) ?_
  refine va_sld (i := nI (n + 3)) hx hb hX hbl hbA hw.2 (vp_in_nI (by omega) (by omega)) dL_law_791 ?_
  refine gx_top (v := xs (n + 3)) (by rw [nI_clamp (by omega)]) ?_
  refine lv_aload_n hx hb dL_law_792 rfl (lv_at hl 4 rfl) ?_
  refine lv_iload hx hb dL_law_793 (lv_at hl 0 rfl) ?_
  refine lv_iconst (v := 4) hx hb dL_law_795 (by decide) ?_
  refine lv_iadd hx hb dL_law_796 ?_
  refine gx_top (v := nI (n + 4)) (by rw [show (4 : Int32) = nI 4 from rfl, nI_add]) ?_
  refine va_sld (i := nI (n + 4)) hx hb hX hbl hbA hw.2 (vp_in_nI (by omega) (by omega)) dL_law_797 ?_
  refine gx_top (v := xs (n + 4)) (by rw [nI_clamp (by omega)]) ?_
  refine lv_aload_n hx hb dL_law_798 rfl (lv_at hl 4 rfl) ?_
  refine lv_iload hx hb dL_law_799 (lv_at hl 0 rfl) ?_
  refine lv_iconst (v := 5) hx hb dL_law_801 (by decide) ?_
  refine lv_iadd hx hb dL_law_802 ?_
  refine gx_top (v := nI (n + 5)) (by rw [show (5 : Int32) = nI 5 from rfl, nI_add]) ?_
  refine va_sld (i := nI (n + 5)) hx hb hX hbl hbA hw.2 (vp_in_nI (by omega) (by omega)) dL_law_803 ?_
  refine gx_top (v := xs (n + 5)) (by rw [nI_clamp (by omega)]) ?_
  refine gx_cVi (As := [.int (xs (n + 1)), .int (xs (n + 2)), .int (xs (n + 3)), .int (xs (n + 4)), .int (xs (n + 5))]) (rest := []) S hK hA hw (c_X11_sail l (E := E) N σ τ (xs (n + 1)) (xs (n + 2)) (xs (n + 3)) (xs (n + 4)) (xs (n + 5)) q_1) cw_L_108 t_0 cl_12 ⟨Nat.le_of_ble_eq_true rfl, Nat.le_of_ble_eq_true rfl⟩ rfl hl.1 rfl (Nat.le_of_ble_eq_true rfl) ⟨by show cells + 0 ≤ 601024; omega, by show slots + 0 ≤ 7293034; omega⟩ dL_law_804 (fun r9 σ9 τ9 H locs hp hw => ?_)
  obtain ⟨rfl, rfl, rfl⟩ := hp
  refine lv_pop hx hb dL_law_807 rfl ?_
  refine lv_aload_n hx hb dL_law_808 rfl (lv_at hl 2 rfl) ?_
  refine lv_aload_n hx hb dL_law_809 rfl (lv_at hl 4 rfl) ?_
  refine lv_iload hx hb dL_law_810 (lv_at hl 0 rfl) ?_
  refine lv_iconst (v := 1) hx hb dL_law_812 (by decide) ?_
  refine lv_iadd hx hb dL_law_813 ?_
  refine gx_top (v := nI (n + 1)) (by rw [show (1 : Int32) = nI 1 from rfl, nI_add]) ?_
  refine va_sld (i := nI (n + 1)) hx hb hX hbl hbA hw.2 (vp_in_nI (by omega) (by omega)) dL_law_814 ?_
  refine gx_top (v := xs (n + 1)) (by rw [nI_clamp (by omega)]) ?_
  refine lv_aload_n hx hb dL_law_815 rfl (lv_at hl 4 rfl) ?_
  refine lv_iload hx hb dL_law_816 (lv_at hl 0 rfl) ?_
  refine lv_iconst (v := 2) hx hb dL_law_818 (by decide) ?_
  refine lv_iadd hx hb dL_law_819 ?_
  refine gx_top (v := nI (n + 2)) (by rw [show (2 : Int32) = nI 2 from rfl, nI_add]) ?_
  refine va_sld (i := nI (n + 2)) hx hb hX hbl hbA hw.2 (vp_in_nI (by omega) (by omega)) dL_law_820 ?_
  refine gx_top (v := xs (n + 2)) (by rw [nI_clamp (by omega)]) ?_
  refine lv_aload_n hx hb dL_law_821 rfl (lv_at hl 4 rfl) ?_
  refine lv_iload hx hb dL_law_822 (lv_at hl 0 rfl) ?_
  refine lv_iconst (v := 3) hx hb dL_law_824 (by decide) ?_
  refine lv_iadd hx hb dL_law_825 ?_
  refine gx_top (v := nI (n + 3)) (by rw [show (3 : Int32) = nI 3 from rfl, nI_add]) ?_
  refine va_sld (i := nI (n + 3)) hx hb hX hbl hbA hw.2 (vp_in_nI (by omega) (by omega)) dL_law_826 ?_
  refine gx_top (v := xs (n + 3)) (by rw [nI_clamp (by omega)]) ?_
  refine lv_aload_n hx hb dL_law_827 rfl (lv_at hl 4 rfl) ?_
  refine lv_iload hx hb dL_law_828 (lv_at hl 0 rfl) ?_
  refine lv_iconst (v := 4) hx hb dL_law_830 (by decide) ?_
  refine lv_iadd hx hb dL_law_831 ?_
  refine gx_top (v := nI (n + 4)) (by rw [show (4 : Int32) = nI 4 from rfl, nI_add]) ?_
  refine va_sld (i := nI (n + 4)) hx hb hX hbl hbA hw.2 (vp_in_nI (by omega) (by omega)) dL_law_832 ?_
  refine gx_top (v := xs (n + 4)) (by rw [nI_clamp (by omega)]) ?_
  refine lv_aload_n hx hb dL_law_833 rfl (lv_at hl 4 rfl) ?_
  refine lv_iload hx hb dL_law_834 (lv_at hl 0 rfl) ?_
  refine lv_iconst (v := 5) hx hb dL_law_836 (by decide) ?_
  refine lv_iadd hx hb dL_law_837 ?_
  refine gx_top (v := nI (n + 5)) (by rw [show (5 : Int32) = nI 5 from rfl, nI_add]) ?_
  refine va_sld (i := nI (n + 5)) hx hb hX hbl hbA hw.2 (vp_in_nI (by omega) (by omega)) dL_law_838 ?_
  refine gx_top (v := xs (n + 5)) (by rw [nI_clamp (by omega)]) ?_
  refine gx_cVi (As := [.int (xs (n + 1)), .int (xs (n + 2)), .int (xs (n + 3)), .int (xs (n + 4)), .int (xs (n + 5))]) (rest := []) S hK hA hw (c_X12_sail l (E := E) N σ_1 τ_1 (xs (n + 1)) (xs (n + 2)) (xs (n + 3)) (xs (n + 4)) (xs (n + 5)) q_2) cw_L_112 t_199 cl_13 ⟨Nat.le_of_ble_eq_true rfl, Nat.le_of_ble_eq_true rfl⟩ rfl hl.1 rfl (Nat.le_of_ble_eq_true rfl) ⟨by show cells + 0 ≤ 601024; omega, by show slots + 0 ≤ 7293034; omega⟩ dL_law_839 (fun r9 σ9 τ9 H locs hp hw => ?_)
  obtain ⟨rfl, rfl, rfl⟩ := hp
  refine lv_pop hx hb dL_law_842 rfl ?_
  refine lv_goto (tgt := 1662) hx hb dL_law_843 (by decide) ?_
  refine W.widen (k := cells + 60) (n := slots + 1000) (by omega) (by omega) ?_
  exact kk _ _ _ _ _ hZ hw (lv_sub hl [0, 1, 2, 3, 4] rfl)
end LG10
