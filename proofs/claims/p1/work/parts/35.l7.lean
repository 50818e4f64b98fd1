section LC37
variable {P9 : Program} {e9 : Env} {s : State} {m9 : MethodId} {below : List Frame} {meth : Method} {C9 : Code} {E : gE} {b : Nat} {xs : Nat → Int32} {H : Heap} {locs : List Loc} {Q : State → Prop} {ls : Array Slot}
set_option maxHeartbeats 4000000 in
set_option maxRecDepth 100000 in
theorem lc_37 (l : Launch) (hl9 : l.stackTraces = false) (S : CallFix P9 m9 C9 cL_law 8 s #[Value.ref b] gx_G RL) (hK : gx_K E s) (hT9 : gx_T s) (hA : gx_Ok gx_tb 0 E s) (hX : va_X b 6 xs s s.heap) (hbl : b < s.heap.size) (hbA : ¬ gx_A 0 E.2.2 s.heap.size b) (hw : gx_W gx_tb 0 E s gs0 gt0 H locs) (hl : lv_has ls 8 [(4, .int 0), (3, .ref (E.2.2 + 233)), (2, .ref (E.2.2 + 199)), (1, .ref (E.2.2 + 0)), (0, .ref b)]) (kk : ∀ (σ : gI) (τ : gJ) (H : Heap) (locs : List Loc) (ls : Array Slot), gx_W gx_tb 0 E s σ τ H locs → lv_has ls 8 [(4, .int 0), (3, .ref (E.2.2 + 233)), (2, .ref (E.2.2 + 199)), (1, .ref (E.2.2 + 0)), (0, .ref b)] → W P9 l e9 room_1 s m9 #[Value.ref b] below meth C9 H locs 235 20159 Q (F0 m9 1745 ls [])) : W P9 l e9 room_1 s m9 #[Value.ref b] below meth C9 H locs 234 20153 Q (F0 m9 1615 ls []) := by
  have hx := S.1
  have hb := S.2.1
  refine lv_aload_n hx hb dL_law_1615 rfl (lv_at hl 3 rfl) ?_
  refine lv_aload_n hx hb dL_law_1616 rfl (lv_at hl 4 rfl) ?_
  refine lv_iload hx hb dL_law_1617 (lv_at hl 0 rfl) ?_
  refine lv_iconst (v := 1) hx hb dL_law_1619 (by decide) ?_
  refine lv_iadd hx hb dL_law_1620 ?_
  refine gx_top (v := 1) (by decide) ?_
  refine va_sld (i := 1) hx hb hX hbl hbA hw.2 (gx_in rfl (by decide) (by decide)) dL_law_1621 ?_
  refine gx_top (v := xs 1) rfl ?_
  refine gx_cVi (As := [.int (xs 1)]) (rest := []) S hK hA hw (c_x_keep l (E := E) (xs 1)) cw_L_185 t_0 cl_12 ⟨Nat.le_of_ble_eq_true rfl, Nat.le_of_ble_eq_true rfl⟩ rfl hl.1 rfl (Nat.le_of_ble_eq_true rfl) ⟨Nat.le_of_ble_eq_true rfl, Nat.le_of_ble_eq_true rfl⟩ dL_law_1622 (fun r_1 σ_1 τ_1 H locs hp hw => ?_)
  obtain ⟨er_1, hs_1, -⟩ := hp
  obtain rfl := er_1.symm
  refine lv_aload_n hx hb dL_law_1625 rfl (lv_at hl 2 rfl) ?_
  refine lv_aload_n hx hb dL_law_1626 rfl (lv_at hl 4 rfl) ?_
  refine lv_iload hx hb dL_law_1627 (lv_at hl 0 rfl) ?_
  refine lv_iconst (v := 1) hx hb dL_law_1629 (by decide) ?_
  refine lv_iadd hx hb dL_law_1630 ?_
  refine gx_top (v := 1) (by decide) ?_
  refine va_sld (i := 1) hx hb hX hbl hbA hw.2 (gx_in rfl (by decide) (by decide)) dL_law_1631 ?_
  refine gx_top (v := xs 1) rfl ?_
  refine gx_cVi (As := [.int (xs 1)]) (rest := [.int (if 0 ≤ (xs 1).toInt ∧ (xs 1).toInt ≤ 2 then 1 else 0)]) S hK hA hw (c_m_keep l (E := E) (σ_1) (τ_1) (xs 1) (fun c9 k9 h9 => (hs_1 c9 k9 h9).trans (gs0_hi h9))) cw_L_188 t_199 cl_13 ⟨Nat.le_of_ble_eq_true rfl, Nat.le_of_ble_eq_true rfl⟩ rfl hl.1 rfl (Nat.le_of_ble_eq_true rfl) ⟨Nat.le_of_ble_eq_true rfl, Nat.le_of_ble_eq_true rfl⟩ dL_law_1632 (fun r_2 σ_2 τ_2 H locs hp hw => ?_)
  obtain ⟨er_2, -, -⟩ := hp
  obtain rfl := er_2.symm
  refine lv_icmp_eq (tgt := 1745) hx hb dL_law_1635 (by decide) (fun _ => ?_) (fun h => absurd rfl h)
  refine W.widen (k := 235) (n := 20159) (by omega) (by omega) ?_
  exact kk _ _ _ _ _ hw (lv_sub hl [0, 1, 2, 3, 4] rfl)
set_option maxHeartbeats 4000000 in
set_option maxRecDepth 100000 in
theorem lc_38 (l : Launch) (hl9 : l.stackTraces = false) (S : CallFix P9 m9 C9 cL_law 8 s #[Value.ref b] gx_G RL) (hK : gx_K E s) (hT9 : gx_T s) (hA : gx_Ok gx_tb 0 E s) (hX : va_X b 6 xs s s.heap) (hbl : b < s.heap.size) (hbA : ¬ gx_A 0 E.2.2 s.heap.size b) (hw : gx_W gx_tb 0 E s gs0 gt0 H locs) (hl : lv_has ls 8 [(4, .int 0), (3, .ref (E.2.2 + 233)), (2, .ref (E.2.2 + 199)), (1, .ref (E.2.2 + 0)), (0, .ref b)]) (kk : ∀ (σ : gI) (τ : gJ) (H : Heap) (locs : List Loc) (ls : Array Slot), gx_W gx_tb 0 E s σ τ H locs → lv_has ls 8 [(4, .int 0), (3, .ref (E.2.2 + 233)), (2, .ref (E.2.2 + 199)), (1, .ref (E.2.2 + 0)), (0, .ref b)] → W P9 l e9 room_1 s m9 #[Value.ref b] below meth C9 H locs 235 20159 Q (F0 m9 1745 ls [])) : W P9 l e9 room_1 s m9 #[Value.ref b] below meth C9 H locs 234 20153 Q (F0 m9 1640 ls []) := by
  have hx := S.1
  have hb := S.2.1
  refine lv_aload_n hx hb dL_law_1640 rfl (lv_at hl 3 rfl) ?_
  refine lv_aload_n hx hb dL_law_1641 rfl (lv_at hl 4 rfl) ?_
  refine lv_iload hx hb dL_law_1642 (lv_at hl 0 rfl) ?_
  refine lv_iconst (v := 1) hx hb dL_law_1644 (by decide) ?_
  refine lv_iadd hx hb dL_law_1645 ?_
  refine gx_top (v := 1) (by decide) ?_
  refine va_sld (i := 1) hx hb hX hbl hbA hw.2 (gx_in rfl (by decide) (by decide)) dL_law_1646 ?_
  refine gx_top (v := xs 1) rfl ?_
  refine gx_cVi (As := [.int (xs 1)]) (rest := []) S hK hA hw (c_x_again l (E := E) (xs 1)) cw_L_189 t_0 cl_12 ⟨Nat.le_of_ble_eq_true rfl, Nat.le_of_ble_eq_true rfl⟩ rfl hl.1 rfl (Nat.le_of_ble_eq_true rfl) ⟨Nat.le_of_ble_eq_true rfl, Nat.le_of_ble_eq_true rfl⟩ dL_law_1647 (fun r_1 σ_1 τ_1 H locs hp hw => ?_)
  obtain ⟨er_1, hs_1, -⟩ := hp
  obtain rfl := er_1.symm
  refine lv_aload_n hx hb dL_law_1650 rfl (lv_at hl 2 rfl) ?_
  refine lv_aload_n hx hb dL_law_1651 rfl (lv_at hl 4 rfl) ?_
  refine lv_iload hx hb dL_law_1652 (lv_at hl 0 rfl) ?_
  refine lv_iconst (v := 1) hx hb dL_law_1654 (by decide) ?_
  refine lv_iadd hx hb dL_law_1655 ?_
  refine gx_top (v := 1) (by decide) ?_
  refine va_sld (i := 1) hx hb hX hbl hbA hw.2 (gx_in rfl (by decide) (by decide)) dL_law_1656 ?_
  refine gx_top (v := xs 1) rfl ?_
  refine gx_cVi (As := [.int (xs 1)]) (rest := [.int 0]) S hK hA hw (c_m_again l (E := E) (σ_1) (τ_1) (xs 1) (fun c9 k9 h9 => (hs_1 c9 k9 h9).trans (gs0_hi h9))) cw_L_192 t_199 cl_13 ⟨Nat.le_of_ble_eq_true rfl, Nat.le_of_ble_eq_true rfl⟩ rfl hl.1 rfl (Nat.le_of_ble_eq_true rfl) ⟨Nat.le_of_ble_eq_true rfl, Nat.le_of_ble_eq_true rfl⟩ dL_law_1657 (fun r_2 σ_2 τ_2 H locs hp hw => ?_)
  obtain ⟨er_2, -, -⟩ := hp
  obtain rfl := er_2.symm
  refine lv_icmp_eq (tgt := 1745) hx hb dL_law_1660 (by decide) (fun _ => ?_) (fun h => absurd rfl h)
  refine W.widen (k := 235) (n := 20159) (by omega) (by omega) ?_
  exact kk _ _ _ _ _ hw (lv_sub hl [0, 1, 2, 3, 4] rfl)
set_option maxHeartbeats 4000000 in
set_option maxRecDepth 100000 in
theorem lc_39 (l : Launch) (hl9 : l.stackTraces = false) (S : CallFix P9 m9 C9 cL_law 8 s #[Value.ref b] gx_G RL) (hK : gx_K E s) (hT9 : gx_T s) (hA : gx_Ok gx_tb 0 E s) (hX : va_X b 6 xs s s.heap) (hbl : b < s.heap.size) (hbA : ¬ gx_A 0 E.2.2 s.heap.size b) (hw : gx_W gx_tb 0 E s gs0 gt0 H locs) (hl : lv_has ls 8 [(4, .int 0), (3, .ref (E.2.2 + 233)), (2, .ref (E.2.2 + 199)), (1, .ref (E.2.2 + 0)), (0, .ref b)]) (kk : ∀ (σ : gI) (τ : gJ) (H : Heap) (locs : List Loc) (ls : Array Slot), gx_W gx_tb 0 E s σ τ H locs → lv_has ls 8 [(4, .int 0), (3, .ref (E.2.2 + 233)), (2, .ref (E.2.2 + 199)), (1, .ref (E.2.2 + 0)), (0, .ref b)] → W P9 l e9 room_1 s m9 #[Value.ref b] below meth C9 H locs 235 20159 Q (F0 m9 1745 ls [])) : W P9 l e9 room_1 s m9 #[Value.ref b] below meth C9 H locs 234 20153 Q (F0 m9 1665 ls []) := by
  have hx := S.1
  have hb := S.2.1
  refine lv_aload_n hx hb dL_law_1665 rfl (lv_at hl 3 rfl) ?_
  refine lv_aload_n hx hb dL_law_1666 rfl (lv_at hl 4 rfl) ?_
  refine lv_iload hx hb dL_law_1667 (lv_at hl 0 rfl) ?_
  refine lv_iconst (v := 1) hx hb dL_law_1669 (by decide) ?_
  refine lv_iadd hx hb dL_law_1670 ?_
  refine gx_top (v := 1) (by decide) ?_
  refine va_sld (i := 1) hx hb hX hbl hbA hw.2 (gx_in rfl (by decide) (by decide)) dL_law_1671 ?_
  refine gx_top (v := xs 1) rfl ?_
  refine gx_cVi (As := [.int (xs 1)]) (rest := []) S hK hA hw (c_x_count l (E := E) (xs 1)) cw_L_193 t_0 cl_12 ⟨Nat.le_of_ble_eq_true rfl, Nat.le_of_ble_eq_true rfl⟩ rfl hl.1 rfl (Nat.le_of_ble_eq_true rfl) ⟨Nat.le_of_ble_eq_true rfl, Nat.le_of_ble_eq_true rfl⟩ dL_law_1672 (fun r_1 σ_1 τ_1 H locs hp hw => ?_)
  obtain ⟨er_1, hs_1, -⟩ := hp
  obtain rfl := er_1.symm
  refine lv_aload_n hx hb dL_law_1675 rfl (lv_at hl 2 rfl) ?_
  refine lv_aload_n hx hb dL_law_1676 rfl (lv_at hl 4 rfl) ?_
  refine lv_iload hx hb dL_law_1677 (lv_at hl 0 rfl) ?_
  refine lv_iconst (v := 1) hx hb dL_law_1679 (by decide) ?_
  refine lv_iadd hx hb dL_law_1680 ?_
  refine gx_top (v := 1) (by decide) ?_
  refine va_sld (i := 1) hx hb hX hbl hbA hw.2 (gx_in rfl (by decide) (by decide)) dL_law_1681 ?_
  refine gx_top (v := xs 1) rfl ?_
  refine gx_cVi (As := [.int (xs 1)]) (rest := [.int (if 0 ≤ (xs 1).toInt ∧ (xs 1).toInt ≤ 11 then 0 else (-100))]) S hK hA hw (c_m_count l (E := E) (σ_1) (τ_1) (xs 1) (fun c9 k9 h9 => (hs_1 c9 k9 h9).trans (gs0_hi h9))) cw_L_196 t_199 cl_13 ⟨Nat.le_of_ble_eq_true rfl, Nat.le_of_ble_eq_true rfl⟩ rfl hl.1 rfl (Nat.le_of_ble_eq_true rfl) ⟨Nat.le_of_ble_eq_true rfl, Nat.le_of_ble_eq_true rfl⟩ dL_law_1682 (fun r_2 σ_2 τ_2 H locs hp hw => ?_)
  obtain ⟨er_2, -, -⟩ := hp
  obtain rfl := er_2.symm
  refine lv_icmp_eq (tgt := 1745) hx hb dL_law_1685 (by decide) (fun _ => ?_) (fun h => absurd rfl h)
  refine W.widen (k := 235) (n := 20159) (by omega) (by omega) ?_
  exact kk _ _ _ _ _ hw (lv_sub hl [0, 1, 2, 3, 4] rfl)
set_option maxHeartbeats 4000000 in
set_option maxRecDepth 100000 in
theorem lc_40 (l : Launch) (hl9 : l.stackTraces = false) (S : CallFix P9 m9 C9 cL_law 8 s #[Value.ref b] gx_G RL) (hK : gx_K E s) (hT9 : gx_T s) (hA : gx_Ok gx_tb 0 E s) (hX : va_X b 6 xs s s.heap) (hbl : b < s.heap.size) (hbA : ¬ gx_A 0 E.2.2 s.heap.size b) (hw : gx_W gx_tb 0 E s gs0 gt0 H locs) (hl : lv_has ls 8 [(4, .int 0), (3, .ref (E.2.2 + 233)), (2, .ref (E.2.2 + 199)), (1, .ref (E.2.2 + 0)), (0, .ref b)]) (kk : ∀ (σ : gI) (τ : gJ) (H : Heap) (locs : List Loc) (ls : Array Slot), gx_W gx_tb 0 E s σ τ H locs → lv_has ls 8 [(4, .int 0), (3, .ref (E.2.2 + 233)), (2, .ref (E.2.2 + 199)), (1, .ref (E.2.2 + 0)), (0, .ref b)] → W P9 l e9 room_1 s m9 #[Value.ref b] below meth C9 H locs 235 20159 Q (F0 m9 1745 ls [])) : W P9 l e9 room_1 s m9 #[Value.ref b] below meth C9 H locs 234 20153 Q (F0 m9 1690 ls []) := by
  have hx := S.1
  have hb := S.2.1
  refine lv_aload_n hx hb dL_law_1690 rfl (lv_at hl 3 rfl) ?_
  refine lv_aload_n hx hb dL_law_1691 rfl (lv_at hl 4 rfl) ?_
  refine lv_iload hx hb dL_law_1692 (lv_at hl 0 rfl) ?_
  refine lv_iconst (v := 1) hx hb dL_law_1694 (by decide) ?_
  refine lv_iadd hx hb dL_law_1695 ?_
  refine gx_top (v := 1) (by decide) ?_
  refine va_sld (i := 1) hx hb hX hbl hbA hw.2 (gx_in rfl (by decide) (by decide)) dL_law_1696 ?_
  refine gx_top (v := xs 1) rfl ?_
  refine lv_aload_n hx hb dL_law_1697 rfl (lv_at hl 1 rfl) ?_
  refine gx_cSw (As := [.ref (E.2.2 + 0), .int (xs 1), .ref (E.2.2 + 233)]) (rest := []) S hK hT9 hA hw (c_L_row l hl9 (E := E) (xs 1)) cw_L_197 ⟨Nat.le_of_ble_eq_true rfl, Nat.le_of_ble_eq_true rfl⟩ rfl hl.1 rfl (Nat.le_of_ble_eq_true rfl) ⟨Nat.le_of_ble_eq_true rfl, Nat.le_of_ble_eq_true rfl⟩ dL_law_1698 (fun r_1 σ_1 τ_1 H locs hp hw => ?_)
  obtain ⟨er_1, es_1, et_1⟩ := hp
  obtain rfl := er_1.symm
  obtain rfl := es_1.symm
  obtain rfl := et_1.symm
  refine W.widen (k := 235) (n := 20159) (by omega) (by omega) ?_
  refine lv_istore (lv' := [(5, .int 1), (4, .int 0), (3, .ref (E.2.2 + 233)), (2, .ref (E.2.2 + 199)), (1, .ref (E.2.2 + 0)), (0, .ref b)]) hx hb dL_law_1701 hl (by decide) rfl (fun ls hl => ?_)
  refine lv_aload_n hx hb dL_law_1703 rfl (lv_at hl 3 rfl) ?_
  refine lv_aload_n hx hb dL_law_1704 rfl (lv_at hl 5 rfl) ?_
  refine lv_iload hx hb dL_law_1705 (lv_at hl 1 rfl) ?_
  refine lv_iconst (v := 1) hx hb dL_law_1707 (by decide) ?_
  refine lv_iadd hx hb dL_law_1708 ?_
  refine gx_top (v := 1) (by decide) ?_
  refine va_sld (i := 1) hx hb hX hbl hbA hw.2 (gx_in rfl (by decide) (by decide)) dL_law_1709 ?_
  refine gx_top (v := xs 1) rfl ?_
  refine gx_cVl (As := [.int (xs 1)]) (rest := []) S hK hA hw (c_m_row l (E := E) gs0 gt0 (xs 1) (fun c9 k9 h9 => gs0_hi h9)) cw_L_200 t_199 cl_13 ⟨Nat.le_of_ble_eq_true rfl, Nat.le_of_ble_eq_true rfl⟩ rfl hl.1 rfl (Nat.le_of_ble_eq_true rfl) ⟨Nat.le_of_ble_eq_true rfl, Nat.le_of_ble_eq_true rfl⟩ dL_law_1710 (fun r_2 σ_2 τ_2 H locs hp hw => ?_)
  obtain ⟨er_2, es_2, et_2⟩ := hp
  obtain rfl := er_2.symm
  obtain rfl := es_2.symm
  obtain rfl := et_2.symm
  refine lv_lstore (lv' := [(6, .long 0), (5, .int 1), (4, .int 0), (3, .ref (E.2.2 + 233)), (2, .ref (E.2.2 + 199)), (1, .ref (E.2.2 + 0)), (0, .ref b)]) hx hb dL_law_1713 hl (by decide) rfl (fun ls hl => ?_)
  refine lv_aload_n hx hb dL_law_1715 rfl (lv_at hl 4 rfl) ?_
  refine gx_cVi (As := []) (rest := []) S hK hA hw (c_thrown1 l (E := E) (up2 (up2 gs0 199 0 0) 199 0 1) gt0 (by simp [up2])) cw_L_55 t_199 cl_13 ⟨Nat.le_of_ble_eq_true rfl, Nat.le_of_ble_eq_true rfl⟩ rfl hl.1 rfl (Nat.le_of_ble_eq_true rfl) ⟨Nat.le_of_ble_eq_true rfl, Nat.le_of_ble_eq_true rfl⟩ dL_law_1716 (fun r_3 σ_3 τ_3 H locs hp hw => ?_)
  obtain ⟨er_3, es_3, et_3⟩ := hp
  obtain rfl := er_3.symm
  obtain rfl := es_3.symm
  obtain rfl := et_3.symm
  refine lv_iload hx hb dL_law_1719 (lv_at hl 1 rfl) ?_
  refine lv_icmp_eq (tgt := 1726) hx hb dL_law_1721 (by decide) (fun _ => ?_) (fun h => absurd rfl h)
  refine lv_iload hx hb dL_law_1726 (lv_at hl 1 rfl) ?_
  refine lv_if_ne (tgt := 1742) hx hb dL_law_1728 (by decide) (fun _ => ?_) (fun h => absurd h (by decide))
  refine lv_goto (tgt := 1745) hx hb dL_law_1742 (by decide) ?_
  exact kk _ _ _ _ _ hw (lv_sub hl [2, 3, 4, 5, 6] rfl)
end LC37
