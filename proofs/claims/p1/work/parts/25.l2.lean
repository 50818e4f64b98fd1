section LC10
variable {P9 : Program} {e9 : Env} {s : State} {m9 : MethodId} {below : List Frame} {meth : Method} {C9 : Code} {E : gE} {b : Nat} {xs : Nat → Int32} {H : Heap} {locs : List Loc} {Q : State → Prop} {ls : Array Slot}
set_option maxHeartbeats 4000000 in
set_option maxRecDepth 100000 in
theorem lc_10 (l : Launch) (hl9 : l.stackTraces = false) (S : CallFix P9 m9 C9 cL_law 8 s #[Value.ref b] gx_G RL) (hK : gx_K E s) (hT9 : gx_T s) (hA : gx_Ok gx_tb 0 E s) (hX : va_X b 6 xs s s.heap) (hbl : b < s.heap.size) (hbA : ¬ gx_A 0 E.2.2 s.heap.size b) (hw : gx_W gx_tb 0 E s gs0 gt0 H locs) (hl : lv_has ls 8 [(4, .int 0), (3, .ref (E.2.2 + 233)), (2, .ref (E.2.2 + 199)), (1, .ref (E.2.2 + 0)), (0, .ref b)]) (kk : ∀ (σ : gI) (τ : gJ) (H : Heap) (locs : List Loc) (ls : Array Slot), gx_W gx_tb 0 E s σ τ H locs → lv_has ls 8 [(4, .int 0), (3, .ref (E.2.2 + 233)), (2, .ref (E.2.2 + 199)), (1, .ref (E.2.2 + 0)), (0, .ref b)] → W P9 l e9 room_1 s m9 #[Value.ref b] below meth C9 H locs 235 20159 Q (F0 m9 1745 ls [])) : W P9 l e9 room_1 s m9 #[Value.ref b] below meth C9 H locs 234 20153 Q (F0 m9 568 ls []) := by
  have hx := S.1
  have hb := S.2.1
  refine lv_aload_n hx hb dL_law_568 rfl (lv_at hl 3 rfl) ?_
  refine lv_aload_n hx hb dL_law_569 rfl (lv_at hl 4 rfl) ?_
  refine lv_iload hx hb dL_law_570 (lv_at hl 0 rfl) ?_
  refine lv_iconst (v := 1) hx hb dL_law_572 (by decide) ?_
  refine lv_iadd hx hb dL_law_573 ?_
  refine gx_top (v := 1) (by decide) ?_
  refine va_sld (i := 1) hx hb hX hbl hbA hw.2 (gx_in rfl (by decide) (by decide)) dL_law_574 ?_
  refine gx_top (v := xs 1) rfl ?_
  refine lv_aload_n hx hb dL_law_575 rfl (lv_at hl 4 rfl) ?_
  refine lv_iload hx hb dL_law_576 (lv_at hl 0 rfl) ?_
  refine lv_iconst (v := 2) hx hb dL_law_578 (by decide) ?_
  refine lv_iadd hx hb dL_law_579 ?_
  refine gx_top (v := 2) (by decide) ?_
  refine va_sld (i := 2) hx hb hX hbl hbA hw.2 (gx_in rfl (by decide) (by decide)) dL_law_580 ?_
  refine gx_top (v := xs 2) rfl ?_
  refine lv_aload_n hx hb dL_law_581 rfl (lv_at hl 4 rfl) ?_
  refine lv_iload hx hb dL_law_582 (lv_at hl 0 rfl) ?_
  refine lv_iconst (v := 3) hx hb dL_law_584 (by decide) ?_
  refine lv_iadd hx hb dL_law_585 ?_
  refine gx_top (v := 3) (by decide) ?_
  refine va_sld (i := 3) hx hb hX hbl hbA hw.2 (gx_in rfl (by decide) (by decide)) dL_law_586 ?_
  refine gx_top (v := xs 3) rfl ?_
  refine lv_aload_n hx hb dL_law_587 rfl (lv_at hl 4 rfl) ?_
  refine lv_iload hx hb dL_law_588 (lv_at hl 0 rfl) ?_
  refine lv_iconst (v := 4) hx hb dL_law_590 (by decide) ?_
  refine lv_iadd hx hb dL_law_591 ?_
  refine gx_top (v := 4) (by decide) ?_
  refine va_sld (i := 4) hx hb hX hbl hbA hw.2 (gx_in rfl (by decide) (by decide)) dL_law_592 ?_
  refine gx_top (v := xs 4) rfl ?_
  refine gx_cVi (As := [.int (xs 1), .int (xs 2), .int (xs 3), .int (xs 4)]) (rest := []) S hK hA hw (c_x_put l (E := E) (xs 1) (xs 2) (xs 3) (xs 4)) cw_L_75 t_0 cl_12 ⟨Nat.le_of_ble_eq_true rfl, Nat.le_of_ble_eq_true rfl⟩ rfl hl.1 rfl (Nat.le_of_ble_eq_true rfl) ⟨Nat.le_of_ble_eq_true rfl, Nat.le_of_ble_eq_true rfl⟩ dL_law_593 (fun r_1 σ_1 τ_1 H locs hp hw => ?_)
  obtain ⟨er_1, hs_1, -⟩ := hp
  obtain rfl := er_1.symm
  refine lv_aload_n hx hb dL_law_596 rfl (lv_at hl 2 rfl) ?_
  refine lv_aload_n hx hb dL_law_597 rfl (lv_at hl 4 rfl) ?_
  refine lv_iload hx hb dL_law_598 (lv_at hl 0 rfl) ?_
  refine lv_iconst (v := 1) hx hb dL_law_600 (by decide) ?_
  refine lv_iadd hx hb dL_law_601 ?_
  refine gx_top (v := 1) (by decide) ?_
  refine va_sld (i := 1) hx hb hX hbl hbA hw.2 (gx_in rfl (by decide) (by decide)) dL_law_602 ?_
  refine gx_top (v := xs 1) rfl ?_
  refine lv_aload_n hx hb dL_law_603 rfl (lv_at hl 4 rfl) ?_
  refine lv_iload hx hb dL_law_604 (lv_at hl 0 rfl) ?_
  refine lv_iconst (v := 2) hx hb dL_law_606 (by decide) ?_
  refine lv_iadd hx hb dL_law_607 ?_
  refine gx_top (v := 2) (by decide) ?_
  refine va_sld (i := 2) hx hb hX hbl hbA hw.2 (gx_in rfl (by decide) (by decide)) dL_law_608 ?_
  refine gx_top (v := xs 2) rfl ?_
  refine lv_aload_n hx hb dL_law_609 rfl (lv_at hl 4 rfl) ?_
  refine lv_iload hx hb dL_law_610 (lv_at hl 0 rfl) ?_
  refine lv_iconst (v := 3) hx hb dL_law_612 (by decide) ?_
  refine lv_iadd hx hb dL_law_613 ?_
  refine gx_top (v := 3) (by decide) ?_
  refine va_sld (i := 3) hx hb hX hbl hbA hw.2 (gx_in rfl (by decide) (by decide)) dL_law_614 ?_
  refine gx_top (v := xs 3) rfl ?_
  refine lv_aload_n hx hb dL_law_615 rfl (lv_at hl 4 rfl) ?_
  refine lv_iload hx hb dL_law_616 (lv_at hl 0 rfl) ?_
  refine lv_iconst (v := 4) hx hb dL_law_618 (by decide) ?_
  refine lv_iadd hx hb dL_law_619 ?_
  refine gx_top (v := 4) (by decide) ?_
  refine va_sld (i := 4) hx hb hX hbl hbA hw.2 (gx_in rfl (by decide) (by decide)) dL_law_620 ?_
  refine gx_top (v := xs 4) rfl ?_
  refine gx_cVi (As := [.int (xs 1), .int (xs 2), .int (xs 3), .int (xs 4)]) (rest := [.int (-1)]) S hK hA hw (c_m_put l (E := E) (σ_1) (τ_1) (xs 1) (xs 2) (xs 3) (xs 4) (fun c9 k9 h9 => (hs_1 c9 k9 h9).trans (gs0_hi h9))) cw_L_78 t_199 cl_13 ⟨Nat.le_of_ble_eq_true rfl, Nat.le_of_ble_eq_true rfl⟩ rfl hl.1 rfl (Nat.le_of_ble_eq_true rfl) ⟨Nat.le_of_ble_eq_true rfl, Nat.le_of_ble_eq_true rfl⟩ dL_law_621 (fun r_2 σ_2 τ_2 H locs hp hw => ?_)
  obtain ⟨er_2, -, -⟩ := hp
  obtain rfl := er_2.symm
  refine lv_icmp_eq (tgt := 1745) hx hb dL_law_624 (by decide) (fun _ => ?_) (fun h => absurd rfl h)
  refine W.widen (k := 235) (n := 20159) (by omega) (by omega) ?_
  exact kk _ _ _ _ _ hw (lv_sub hl [0, 1, 2, 3, 4] rfl)
set_option maxHeartbeats 4000000 in
set_option maxRecDepth 100000 in
theorem lc_11 (l : Launch) (hl9 : l.stackTraces = false) (S : CallFix P9 m9 C9 cL_law 8 s #[Value.ref b] gx_G RL) (hK : gx_K E s) (hT9 : gx_T s) (hA : gx_Ok gx_tb 0 E s) (hX : va_X b 6 xs s s.heap) (hbl : b < s.heap.size) (hbA : ¬ gx_A 0 E.2.2 s.heap.size b) (hw : gx_W gx_tb 0 E s gs0 gt0 H locs) (hl : lv_has ls 8 [(4, .int 0), (3, .ref (E.2.2 + 233)), (2, .ref (E.2.2 + 199)), (1, .ref (E.2.2 + 0)), (0, .ref b)]) (kk : ∀ (σ : gI) (τ : gJ) (H : Heap) (locs : List Loc) (ls : Array Slot), gx_W gx_tb 0 E s σ τ H locs → lv_has ls 8 [(4, .int 0), (3, .ref (E.2.2 + 233)), (2, .ref (E.2.2 + 199)), (1, .ref (E.2.2 + 0)), (0, .ref b)] → W P9 l e9 room_1 s m9 #[Value.ref b] below meth C9 H locs 235 20159 Q (F0 m9 1745 ls [])) : W P9 l e9 room_1 s m9 #[Value.ref b] below meth C9 H locs 234 20153 Q (F0 m9 629 ls []) := by
  have hx := S.1
  have hb := S.2.1
  refine lv_aload_n hx hb dL_law_629 rfl (lv_at hl 3 rfl) ?_
  refine lv_aload_n hx hb dL_law_630 rfl (lv_at hl 4 rfl) ?_
  refine lv_iload hx hb dL_law_631 (lv_at hl 0 rfl) ?_
  refine lv_iconst (v := 1) hx hb dL_law_633 (by decide) ?_
  refine lv_iadd hx hb dL_law_634 ?_
  refine gx_top (v := 1) (by decide) ?_
  refine va_sld (i := 1) hx hb hX hbl hbA hw.2 (gx_in rfl (by decide) (by decide)) dL_law_635 ?_
  refine gx_top (v := xs 1) rfl ?_
  refine lv_aload_n hx hb dL_law_636 rfl (lv_at hl 4 rfl) ?_
  refine lv_iload hx hb dL_law_637 (lv_at hl 0 rfl) ?_
  refine lv_iconst (v := 2) hx hb dL_law_639 (by decide) ?_
  refine lv_iadd hx hb dL_law_640 ?_
  refine gx_top (v := 2) (by decide) ?_
  refine va_sld (i := 2) hx hb hX hbl hbA hw.2 (gx_in rfl (by decide) (by decide)) dL_law_641 ?_
  refine gx_top (v := xs 2) rfl ?_
  refine gx_cVi (As := [.int (xs 1), .int (xs 2)]) (rest := []) S hK hA hw (c_x_give l (E := E) (xs 1) (xs 2)) cw_L_79 t_0 cl_12 ⟨Nat.le_of_ble_eq_true rfl, Nat.le_of_ble_eq_true rfl⟩ rfl hl.1 rfl (Nat.le_of_ble_eq_true rfl) ⟨Nat.le_of_ble_eq_true rfl, Nat.le_of_ble_eq_true rfl⟩ dL_law_642 (fun r_1 σ_1 τ_1 H locs hp hw => ?_)
  obtain ⟨er_1, hs_1, -⟩ := hp
  obtain rfl := er_1.symm
  refine lv_aload_n hx hb dL_law_645 rfl (lv_at hl 2 rfl) ?_
  refine lv_aload_n hx hb dL_law_646 rfl (lv_at hl 4 rfl) ?_
  refine lv_iload hx hb dL_law_647 (lv_at hl 0 rfl) ?_
  refine lv_iconst (v := 1) hx hb dL_law_649 (by decide) ?_
  refine lv_iadd hx hb dL_law_650 ?_
  refine gx_top (v := 1) (by decide) ?_
  refine va_sld (i := 1) hx hb hX hbl hbA hw.2 (gx_in rfl (by decide) (by decide)) dL_law_651 ?_
  refine gx_top (v := xs 1) rfl ?_
  refine lv_aload_n hx hb dL_law_652 rfl (lv_at hl 4 rfl) ?_
  refine lv_iload hx hb dL_law_653 (lv_at hl 0 rfl) ?_
  refine lv_iconst (v := 2) hx hb dL_law_655 (by decide) ?_
  refine lv_iadd hx hb dL_law_656 ?_
  refine gx_top (v := 2) (by decide) ?_
  refine va_sld (i := 2) hx hb hX hbl hbA hw.2 (gx_in rfl (by decide) (by decide)) dL_law_657 ?_
  refine gx_top (v := xs 2) rfl ?_
  refine gx_cVi (As := [.int (xs 1), .int (xs 2)]) (rest := [.int (-1)]) S hK hA hw (c_m_give l (E := E) (σ_1) (τ_1) (xs 1) (xs 2) (fun c9 k9 h9 => (hs_1 c9 k9 h9).trans (gs0_hi h9))) cw_L_82 t_199 cl_13 ⟨Nat.le_of_ble_eq_true rfl, Nat.le_of_ble_eq_true rfl⟩ rfl hl.1 rfl (Nat.le_of_ble_eq_true rfl) ⟨Nat.le_of_ble_eq_true rfl, Nat.le_of_ble_eq_true rfl⟩ dL_law_658 (fun r_2 σ_2 τ_2 H locs hp hw => ?_)
  obtain ⟨er_2, -, -⟩ := hp
  obtain rfl := er_2.symm
  refine lv_icmp_eq (tgt := 1745) hx hb dL_law_661 (by decide) (fun _ => ?_) (fun h => absurd rfl h)
  refine W.widen (k := 235) (n := 20159) (by omega) (by omega) ?_
  exact kk _ _ _ _ _ hw (lv_sub hl [0, 1, 2, 3, 4] rfl)
set_option maxHeartbeats 4000000 in
set_option maxRecDepth 100000 in
theorem lc_12 (l : Launch) (hl9 : l.stackTraces = false) (S : CallFix P9 m9 C9 cL_law 8 s #[Value.ref b] gx_G RL) (hK : gx_K E s) (hT9 : gx_T s) (hA : gx_Ok gx_tb 0 E s) (hX : va_X b 6 xs s s.heap) (hbl : b < s.heap.size) (hbA : ¬ gx_A 0 E.2.2 s.heap.size b) (hw : gx_W gx_tb 0 E s gs0 gt0 H locs) (hl : lv_has ls 8 [(4, .int 0), (3, .ref (E.2.2 + 233)), (2, .ref (E.2.2 + 199)), (1, .ref (E.2.2 + 0)), (0, .ref b)]) (kk : ∀ (σ : gI) (τ : gJ) (H : Heap) (locs : List Loc) (ls : Array Slot), gx_W gx_tb 0 E s σ τ H locs → lv_has ls 8 [(4, .int 0), (3, .ref (E.2.2 + 233)), (2, .ref (E.2.2 + 199)), (1, .ref (E.2.2 + 0)), (0, .ref b)] → W P9 l e9 room_1 s m9 #[Value.ref b] below meth C9 H locs 235 20159 Q (F0 m9 1745 ls [])) : W P9 l e9 room_1 s m9 #[Value.ref b] below meth C9 H locs 234 20153 Q (F0 m9 666 ls []) := by
  have hx := S.1
  have hb := S.2.1
  refine lv_aload_n hx hb dL_law_666 rfl (lv_at hl 3 rfl) ?_
  refine lv_aload_n hx hb dL_law_667 rfl (lv_at hl 4 rfl) ?_
  refine lv_iload hx hb dL_law_668 (lv_at hl 0 rfl) ?_
  refine lv_iconst (v := 1) hx hb dL_law_670 (by decide) ?_
  refine lv_iadd hx hb dL_law_671 ?_
  refine gx_top (v := 1) (by decide) ?_
  refine va_sld (i := 1) hx hb hX hbl hbA hw.2 (gx_in rfl (by decide) (by decide)) dL_law_672 ?_
  refine gx_top (v := xs 1) rfl ?_
  refine gx_cVi (As := [.int (xs 1)]) (rest := []) S hK hA hw (c_x_run l (E := E) (xs 1)) cw_L_83 t_0 cl_12 ⟨Nat.le_of_ble_eq_true rfl, Nat.le_of_ble_eq_true rfl⟩ rfl hl.1 rfl (Nat.le_of_ble_eq_true rfl) ⟨Nat.le_of_ble_eq_true rfl, Nat.le_of_ble_eq_true rfl⟩ dL_law_673 (fun r_1 σ_1 τ_1 H locs hp hw => ?_)
  obtain ⟨er_1, hs_1, -⟩ := hp
  obtain rfl := er_1.symm
  refine lv_aload_n hx hb dL_law_676 rfl (lv_at hl 2 rfl) ?_
  refine lv_aload_n hx hb dL_law_677 rfl (lv_at hl 4 rfl) ?_
  refine lv_iload hx hb dL_law_678 (lv_at hl 0 rfl) ?_
  refine lv_iconst (v := 1) hx hb dL_law_680 (by decide) ?_
  refine lv_iadd hx hb dL_law_681 ?_
  refine gx_top (v := 1) (by decide) ?_
  refine va_sld (i := 1) hx hb hX hbl hbA hw.2 (gx_in rfl (by decide) (by decide)) dL_law_682 ?_
  refine gx_top (v := xs 1) rfl ?_
  refine gx_cVi (As := [.int (xs 1)]) (rest := [.int (if 0 ≤ (xs 1).toInt ∧ (xs 1).toInt ≤ 99 then 0 else (-1))]) S hK hA hw (c_m_run l (E := E) (σ_1) (τ_1) (xs 1) (fun c9 k9 h9 => (hs_1 c9 k9 h9).trans (gs0_hi h9))) cw_L_86 t_199 cl_13 ⟨Nat.le_of_ble_eq_true rfl, Nat.le_of_ble_eq_true rfl⟩ rfl hl.1 rfl (Nat.le_of_ble_eq_true rfl) ⟨Nat.le_of_ble_eq_true rfl, Nat.le_of_ble_eq_true rfl⟩ dL_law_683 (fun r_2 σ_2 τ_2 H locs hp hw => ?_)
  obtain ⟨er_2, -, -⟩ := hp
  obtain rfl := er_2.symm
  refine lv_icmp_eq (tgt := 1745) hx hb dL_law_686 (by decide) (fun _ => ?_) (fun h => absurd rfl h)
  refine W.widen (k := 235) (n := 20159) (by omega) (by omega) ?_
  exact kk _ _ _ _ _ hw (lv_sub hl [0, 1, 2, 3, 4] rfl)
set_option maxHeartbeats 4000000 in
set_option maxRecDepth 100000 in
theorem lc_13 (l : Launch) (hl9 : l.stackTraces = false) (S : CallFix P9 m9 C9 cL_law 8 s #[Value.ref b] gx_G RL) (hK : gx_K E s) (hT9 : gx_T s) (hA : gx_Ok gx_tb 0 E s) (hX : va_X b 6 xs s s.heap) (hbl : b < s.heap.size) (hbA : ¬ gx_A 0 E.2.2 s.heap.size b) (hw : gx_W gx_tb 0 E s gs0 gt0 H locs) (hl : lv_has ls 8 [(4, .int 0), (3, .ref (E.2.2 + 233)), (2, .ref (E.2.2 + 199)), (1, .ref (E.2.2 + 0)), (0, .ref b)]) (kk : ∀ (σ : gI) (τ : gJ) (H : Heap) (locs : List Loc) (ls : Array Slot), gx_W gx_tb 0 E s σ τ H locs → lv_has ls 8 [(4, .int 0), (3, .ref (E.2.2 + 233)), (2, .ref (E.2.2 + 199)), (1, .ref (E.2.2 + 0)), (0, .ref b)] → W P9 l e9 room_1 s m9 #[Value.ref b] below meth C9 H locs 235 20159 Q (F0 m9 1745 ls [])) : W P9 l e9 room_1 s m9 #[Value.ref b] below meth C9 H locs 234 20153 Q (F0 m9 691 ls []) := by
  have hx := S.1
  have hb := S.2.1
  refine lv_aload_n hx hb dL_law_691 rfl (lv_at hl 3 rfl) ?_
  refine gx_cVi (As := []) (rest := []) S hK hA hw (c_x_day l (E := E) ) cw_L_87 t_0 cl_12 ⟨Nat.le_of_ble_eq_true rfl, Nat.le_of_ble_eq_true rfl⟩ rfl hl.1 rfl (Nat.le_of_ble_eq_true rfl) ⟨Nat.le_of_ble_eq_true rfl, Nat.le_of_ble_eq_true rfl⟩ dL_law_692 (fun r_1 σ_1 τ_1 H locs hp hw => ?_)
  obtain ⟨er_1, hs_1, -⟩ := hp
  obtain rfl := er_1.symm
  refine lv_aload_n hx hb dL_law_695 rfl (lv_at hl 2 rfl) ?_
  refine gx_cVi (As := []) (rest := [.int 0]) S hK hA hw (c_m_day l (E := E) (σ_1) (τ_1) (fun c9 k9 h9 => (hs_1 c9 k9 h9).trans (gs0_hi h9))) cw_L_90 t_199 cl_13 ⟨Nat.le_of_ble_eq_true rfl, Nat.le_of_ble_eq_true rfl⟩ rfl hl.1 rfl (Nat.le_of_ble_eq_true rfl) ⟨Nat.le_of_ble_eq_true rfl, Nat.le_of_ble_eq_true rfl⟩ dL_law_696 (fun r_2 σ_2 τ_2 H locs hp hw => ?_)
  obtain ⟨er_2, -, -⟩ := hp
  obtain rfl := er_2.symm
  refine lv_icmp_eq (tgt := 1745) hx hb dL_law_699 (by decide) (fun _ => ?_) (fun h => absurd rfl h)
  refine W.widen (k := 235) (n := 20159) (by omega) (by omega) ?_
  exact kk _ _ _ _ _ hw (lv_sub hl [0, 1, 2, 3, 4] rfl)
set_option maxHeartbeats 4000000 in
set_option maxRecDepth 100000 in
theorem lc_14 (l : Launch) (hl9 : l.stackTraces = false) (S : CallFix P9 m9 C9 cL_law 8 s #[Value.ref b] gx_G RL) (hK : gx_K E s) (hT9 : gx_T s) (hA : gx_Ok gx_tb 0 E s) (hX : va_X b 6 xs s s.heap) (hbl : b < s.heap.size) (hbA : ¬ gx_A 0 E.2.2 s.heap.size b) (hw : gx_W gx_tb 0 E s gs0 gt0 H locs) (hl : lv_has ls 8 [(4, .int 0), (3, .ref (E.2.2 + 233)), (2, .ref (E.2.2 + 199)), (1, .ref (E.2.2 + 0)), (0, .ref b)]) (kk : ∀ (σ : gI) (τ : gJ) (H : Heap) (locs : List Loc) (ls : Array Slot), gx_W gx_tb 0 E s σ τ H locs → lv_has ls 8 [(4, .int 0), (3, .ref (E.2.2 + 233)), (2, .ref (E.2.2 + 199)), (1, .ref (E.2.2 + 0)), (0, .ref b)] → W P9 l e9 room_1 s m9 #[Value.ref b] below meth C9 H locs 235 20159 Q (F0 m9 1745 ls [])) : W P9 l e9 room_1 s m9 #[Value.ref b] below meth C9 H locs 234 20153 Q (F0 m9 704 ls []) := by
  have hx := S.1
  have hb := S.2.1
  refine lv_aload_n hx hb dL_law_704 rfl (lv_at hl 3 rfl) ?_
  refine gx_cVi (As := []) (rest := []) S hK hA hw (c_x_undo l (E := E) ) cw_L_91 t_0 cl_12 ⟨Nat.le_of_ble_eq_true rfl, Nat.le_of_ble_eq_true rfl⟩ rfl hl.1 rfl (Nat.le_of_ble_eq_true rfl) ⟨Nat.le_of_ble_eq_true rfl, Nat.le_of_ble_eq_true rfl⟩ dL_law_705 (fun r_1 σ_1 τ_1 H locs hp hw => ?_)
  obtain ⟨er_1, hs_1, -⟩ := hp
  obtain rfl := er_1.symm
  refine lv_aload_n hx hb dL_law_708 rfl (lv_at hl 2 rfl) ?_
  refine gx_cVi (As := []) (rest := [.int (-1)]) S hK hA hw (c_m_undo l (E := E) (σ_1) (τ_1) (fun c9 k9 h9 => (hs_1 c9 k9 h9).trans (gs0_hi h9))) cw_L_94 t_199 cl_13 ⟨Nat.le_of_ble_eq_true rfl, Nat.le_of_ble_eq_true rfl⟩ rfl hl.1 rfl (Nat.le_of_ble_eq_true rfl) ⟨Nat.le_of_ble_eq_true rfl, Nat.le_of_ble_eq_true rfl⟩ dL_law_709 (fun r_2 σ_2 τ_2 H locs hp hw => ?_)
  obtain ⟨er_2, -, -⟩ := hp
  obtain rfl := er_2.symm
  refine lv_icmp_eq (tgt := 1745) hx hb dL_law_712 (by decide) (fun _ => ?_) (fun h => absurd rfl h)
  refine W.widen (k := 235) (n := 20159) (by omega) (by omega) ?_
  exact kk _ _ _ _ _ hw (lv_sub hl [0, 1, 2, 3, 4] rfl)
set_option maxHeartbeats 4000000 in
set_option maxRecDepth 100000 in
theorem lc_15 (l : Launch) (hl9 : l.stackTraces = false) (S : CallFix P9 m9 C9 cL_law 8 s #[Value.ref b] gx_G RL) (hK : gx_K E s) (hT9 : gx_T s) (hA : gx_Ok gx_tb 0 E s) (hX : va_X b 6 xs s s.heap) (hbl : b < s.heap.size) (hbA : ¬ gx_A 0 E.2.2 s.heap.size b) (hw : gx_W gx_tb 0 E s gs0 gt0 H locs) (hl : lv_has ls 8 [(4, .int 0), (3, .ref (E.2.2 + 233)), (2, .ref (E.2.2 + 199)), (1, .ref (E.2.2 + 0)), (0, .ref b)]) (kk : ∀ (σ : gI) (τ : gJ) (H : Heap) (locs : List Loc) (ls : Array Slot), gx_W gx_tb 0 E s σ τ H locs → lv_has ls 8 [(4, .int 0), (3, .ref (E.2.2 + 233)), (2, .ref (E.2.2 + 199)), (1, .ref (E.2.2 + 0)), (0, .ref b)] → W P9 l e9 room_1 s m9 #[Value.ref b] below meth C9 H locs 235 20159 Q (F0 m9 1745 ls [])) : W P9 l e9 room_1 s m9 #[Value.ref b] below meth C9 H locs 234 20153 Q (F0 m9 717 ls []) := by
  have hx := S.1
  have hb := S.2.1
  refine lv_aload_n hx hb dL_law_717 rfl (lv_at hl 3 rfl) ?_
  refine lv_aload_n hx hb dL_law_718 rfl (lv_at hl 4 rfl) ?_
  refine lv_iload hx hb dL_law_719 (lv_at hl 0 rfl) ?_
  refine lv_iconst (v := 1) hx hb dL_law_721 (by decide) ?_
  refine lv_iadd hx hb dL_law_722 ?_
  refine gx_top (v := 1) (by decide) ?_
  refine va_sld (i := 1) hx hb hX hbl hbA hw.2 (gx_in rfl (by decide) (by decide)) dL_law_723 ?_
  refine gx_top (v := xs 1) rfl ?_
  refine lv_aload_n hx hb dL_law_724 rfl (lv_at hl 4 rfl) ?_
  refine lv_iload hx hb dL_law_725 (lv_at hl 0 rfl) ?_
  refine lv_iconst (v := 2) hx hb dL_law_727 (by decide) ?_
  refine lv_iadd hx hb dL_law_728 ?_
  refine gx_top (v := 2) (by decide) ?_
  refine va_sld (i := 2) hx hb hX hbl hbA hw.2 (gx_in rfl (by decide) (by decide)) dL_law_729 ?_
  refine gx_top (v := xs 2) rfl ?_
  refine gx_cVi (As := [.int (xs 1), .int (xs 2)]) (rest := []) S hK hA hw (c_x_where l (E := E) (xs 1) (xs 2)) cw_L_95 t_0 cl_12 ⟨Nat.le_of_ble_eq_true rfl, Nat.le_of_ble_eq_true rfl⟩ rfl hl.1 rfl (Nat.le_of_ble_eq_true rfl) ⟨Nat.le_of_ble_eq_true rfl, Nat.le_of_ble_eq_true rfl⟩ dL_law_730 (fun r_1 σ_1 τ_1 H locs hp hw => ?_)
  obtain ⟨er_1, hs_1, -⟩ := hp
  obtain rfl := er_1.symm
  refine lv_aload_n hx hb dL_law_733 rfl (lv_at hl 2 rfl) ?_
  refine lv_aload_n hx hb dL_law_734 rfl (lv_at hl 4 rfl) ?_
  refine lv_iload hx hb dL_law_735 (lv_at hl 0 rfl) ?_
  refine lv_iconst (v := 1) hx hb dL_law_737 (by decide) ?_
  refine lv_iadd hx hb dL_law_738 ?_
  refine gx_top (v := 1) (by decide) ?_
  refine va_sld (i := 1) hx hb hX hbl hbA hw.2 (gx_in rfl (by decide) (by decide)) dL_law_739 ?_
  refine gx_top (v := xs 1) rfl ?_
  refine lv_aload_n hx hb dL_law_740 rfl (lv_at hl 4 rfl) ?_
  refine lv_iload hx hb dL_law_741 (lv_at hl 0 rfl) ?_
  refine lv_iconst (v := 2) hx hb dL_law_743 (by decide) ?_
  refine lv_iadd hx hb dL_law_744 ?_
  refine gx_top (v := 2) (by decide) ?_
  refine va_sld (i := 2) hx hb hX hbl hbA hw.2 (gx_in rfl (by decide) (by decide)) dL_law_745 ?_
  refine gx_top (v := xs 2) rfl ?_
  refine gx_cVi (As := [.int (xs 1), .int (xs 2)]) (rest := [.int (-1)]) S hK hA hw (c_m_where l (E := E) (σ_1) (τ_1) (xs 1) (xs 2) (fun c9 k9 h9 => (hs_1 c9 k9 h9).trans (gs0_hi h9))) cw_L_98 t_199 cl_13 ⟨Nat.le_of_ble_eq_true rfl, Nat.le_of_ble_eq_true rfl⟩ rfl hl.1 rfl (Nat.le_of_ble_eq_true rfl) ⟨Nat.le_of_ble_eq_true rfl, Nat.le_of_ble_eq_true rfl⟩ dL_law_746 (fun r_2 σ_2 τ_2 H locs hp hw => ?_)
  obtain ⟨er_2, -, -⟩ := hp
  obtain rfl := er_2.symm
  refine lv_icmp_eq (tgt := 1745) hx hb dL_law_749 (by decide) (fun _ => ?_) (fun h => absurd rfl h)
  refine W.widen (k := 235) (n := 20159) (by omega) (by omega) ?_
  exact kk _ _ _ _ _ hw (lv_sub hl [0, 1, 2, 3, 4] rfl)
end LC10
