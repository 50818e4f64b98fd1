section LC16
variable {P9 : Program} {e9 : Env} {s : State} {m9 : MethodId} {below : List Frame} {meth : Method} {C9 : Code} {E : gE} {b : Nat} {xs : Nat → Int32} {H : Heap} {locs : List Loc} {Q : State → Prop} {ls : Array Slot}
set_option maxHeartbeats 4000000 in
set_option maxRecDepth 100000 in
theorem lc_16 (l : Launch) (hl9 : l.stackTraces = false) (S : CallFix P9 m9 C9 cL_law 8 s #[Value.ref b] gx_G RL) (hK : gx_K E s) (hT9 : gx_T s) (hA : gx_Ok gx_tb 0 E s) (hX : va_X b 6 xs s s.heap) (hbl : b < s.heap.size) (hbA : ¬ gx_A 0 E.2.2 s.heap.size b) (hw : gx_W gx_tb 0 E s gs0 gt0 H locs) (hl : lv_has ls 8 [(4, .int 0), (3, .ref (E.2.2 + 233)), (2, .ref (E.2.2 + 199)), (1, .ref (E.2.2 + 0)), (0, .ref b)]) (kk : ∀ (σ : gI) (τ : gJ) (H : Heap) (locs : List Loc) (ls : Array Slot), gx_W gx_tb 0 E s σ τ H locs → lv_has ls 8 [(4, .int 0), (3, .ref (E.2.2 + 233)), (2, .ref (E.2.2 + 199)), (1, .ref (E.2.2 + 0)), (0, .ref b)] → W P9 l e9 room_1 s m9 #[Value.ref b] below meth C9 H locs 235 20159 Q (F0 m9 1745 ls [])) : W P9 l e9 room_1 s m9 #[Value.ref b] below meth C9 H locs 234 20153 Q (F0 m9 754 ls []) := by
  have hx := S.1
  have hb := S.2.1
  refine lv_aload_n hx hb dL_law_754 rfl (lv_at hl 3 rfl) ?_
  refine lv_aload_n hx hb dL_law_755 rfl (lv_at hl 4 rfl) ?_
  refine lv_iload hx hb dL_law_756 (lv_at hl 0 rfl) ?_
  refine lv_iconst (v := 1) hx hb dL_law_758 (by decide) ?_
  refine lv_iadd hx hb dL_law_759 ?_
  refine gx_top (v := 1) (by decide) ?_
  refine va_sld (i := 1) hx hb hX hbl hbA hw.2 (gx_in rfl (by decide) (by decide)) dL_law_760 ?_
  refine gx_top (v := xs 1) rfl ?_
  refine gx_cVi (As := [.int (xs 1)]) (rest := []) S hK hA hw (c_x_comes l (E := E) (xs 1)) cw_L_99 t_0 cl_12 ⟨Nat.le_of_ble_eq_true rfl, Nat.le_of_ble_eq_true rfl⟩ rfl hl.1 rfl (Nat.le_of_ble_eq_true rfl) ⟨Nat.le_of_ble_eq_true rfl, Nat.le_of_ble_eq_true rfl⟩ dL_law_761 (fun r_1 σ_1 τ_1 H locs hp hw => ?_)
  obtain ⟨er_1, hs_1, -⟩ := hp
  obtain rfl := er_1.symm
  refine lv_aload_n hx hb dL_law_764 rfl (lv_at hl 2 rfl) ?_
  refine lv_aload_n hx hb dL_law_765 rfl (lv_at hl 4 rfl) ?_
  refine lv_iload hx hb dL_law_766 (lv_at hl 0 rfl) ?_
  refine lv_iconst (v := 1) hx hb dL_law_768 (by decide) ?_
  refine lv_iadd hx hb dL_law_769 ?_
  refine gx_top (v := 1) (by decide) ?_
  refine va_sld (i := 1) hx hb hX hbl hbA hw.2 (gx_in rfl (by decide) (by decide)) dL_law_770 ?_
  refine gx_top (v := xs 1) rfl ?_
  refine gx_cVi (As := [.int (xs 1)]) (rest := [.int (-1)]) S hK hA hw (c_m_comes l (E := E) (σ_1) (τ_1) (xs 1) (fun c9 k9 h9 => (hs_1 c9 k9 h9).trans (gs0_hi h9))) cw_L_102 t_199 cl_13 ⟨Nat.le_of_ble_eq_true rfl, Nat.le_of_ble_eq_true rfl⟩ rfl hl.1 rfl (Nat.le_of_ble_eq_true rfl) ⟨Nat.le_of_ble_eq_true rfl, Nat.le_of_ble_eq_true rfl⟩ dL_law_771 (fun r_2 σ_2 τ_2 H locs hp hw => ?_)
  obtain ⟨er_2, -, -⟩ := hp
  obtain rfl := er_2.symm
  refine lv_icmp_eq (tgt := 1745) hx hb dL_law_774 (by decide) (fun _ => ?_) (fun h => absurd rfl h)
  refine W.widen (k := 235) (n := 20159) (by omega) (by omega) ?_
  exact kk _ _ _ _ _ hw (lv_sub hl [0, 1, 2, 3, 4] rfl)
set_option maxHeartbeats 4000000 in
set_option maxRecDepth 100000 in
theorem lc_17 (l : Launch) (hl9 : l.stackTraces = false) (S : CallFix P9 m9 C9 cL_law 8 s #[Value.ref b] gx_G RL) (hK : gx_K E s) (hT9 : gx_T s) (hA : gx_Ok gx_tb 0 E s) (hX : va_X b 6 xs s s.heap) (hbl : b < s.heap.size) (hbA : ¬ gx_A 0 E.2.2 s.heap.size b) (hw : gx_W gx_tb 0 E s gs0 gt0 H locs) (hl : lv_has ls 8 [(4, .int 0), (3, .ref (E.2.2 + 233)), (2, .ref (E.2.2 + 199)), (1, .ref (E.2.2 + 0)), (0, .ref b)]) (kk : ∀ (σ : gI) (τ : gJ) (H : Heap) (locs : List Loc) (ls : Array Slot), gx_W gx_tb 0 E s σ τ H locs → lv_has ls 8 [(4, .int 0), (3, .ref (E.2.2 + 233)), (2, .ref (E.2.2 + 199)), (1, .ref (E.2.2 + 0)), (0, .ref b)] → W P9 l e9 room_1 s m9 #[Value.ref b] below meth C9 H locs 235 20159 Q (F0 m9 1745 ls [])) : W P9 l e9 room_1 s m9 #[Value.ref b] below meth C9 H locs 234 20153 Q (F0 m9 779 ls []) := by
  have hx := S.1
  have hb := S.2.1
  refine lv_aload_n hx hb dL_law_779 rfl (lv_at hl 3 rfl) ?_
  refine lv_aload_n hx hb dL_law_780 rfl (lv_at hl 4 rfl) ?_
  refine lv_iload hx hb dL_law_781 (lv_at hl 0 rfl) ?_
  refine lv_iconst (v := 1) hx hb dL_law_783 (by decide) ?_
  refine lv_iadd hx hb dL_law_784 ?_
  refine gx_top (v := 1) (by decide) ?_
  refine va_sld (i := 1) hx hb hX hbl hbA hw.2 (gx_in rfl (by decide) (by decide)) dL_law_785 ?_
  refine gx_top (v := xs 1) rfl ?_
  refine gx_cVi (As := [.int (xs 1)]) (rest := []) S hK hA hw (c_x_lost l (E := E) (xs 1)) cw_L_103 t_0 cl_12 ⟨Nat.le_of_ble_eq_true rfl, Nat.le_of_ble_eq_true rfl⟩ rfl hl.1 rfl (Nat.le_of_ble_eq_true rfl) ⟨Nat.le_of_ble_eq_true rfl, Nat.le_of_ble_eq_true rfl⟩ dL_law_786 (fun r_1 σ_1 τ_1 H locs hp hw => ?_)
  obtain ⟨er_1, hs_1, -⟩ := hp
  obtain rfl := er_1.symm
  refine lv_aload_n hx hb dL_law_789 rfl (lv_at hl 2 rfl) ?_
  refine lv_aload_n hx hb dL_law_790 rfl (lv_at hl 4 rfl) ?_
  refine lv_iload hx hb dL_law_791 (lv_at hl 0 rfl) ?_
  refine lv_iconst (v := 1) hx hb dL_law_793 (by decide) ?_
  refine lv_iadd hx hb dL_law_794 ?_
  refine gx_top (v := 1) (by decide) ?_
  refine va_sld (i := 1) hx hb hX hbl hbA hw.2 (gx_in rfl (by decide) (by decide)) dL_law_795 ?_
  refine gx_top (v := xs 1) rfl ?_
  refine gx_cVi (As := [.int (xs 1)]) (rest := [.int (if 0 ≤ (xs 1).toInt ∧ (xs 1).toInt ≤ 300 then (-2) else (-1))]) S hK hA hw (c_m_lost l (E := E) (σ_1) (τ_1) (xs 1) (fun c9 k9 h9 => (hs_1 c9 k9 h9).trans (gs0_hi h9))) cw_L_106 t_199 cl_13 ⟨Nat.le_of_ble_eq_true rfl, Nat.le_of_ble_eq_true rfl⟩ rfl hl.1 rfl (Nat.le_of_ble_eq_true rfl) ⟨Nat.le_of_ble_eq_true rfl, Nat.le_of_ble_eq_true rfl⟩ dL_law_796 (fun r_2 σ_2 τ_2 H locs hp hw => ?_)
  obtain ⟨er_2, -, -⟩ := hp
  obtain rfl := er_2.symm
  refine lv_icmp_eq (tgt := 1745) hx hb dL_law_799 (by decide) (fun _ => ?_) (fun h => absurd rfl h)
  refine W.widen (k := 235) (n := 20159) (by omega) (by omega) ?_
  exact kk _ _ _ _ _ hw (lv_sub hl [0, 1, 2, 3, 4] rfl)
set_option maxHeartbeats 4000000 in
set_option maxRecDepth 100000 in
theorem lc_18 (l : Launch) (hl9 : l.stackTraces = false) (S : CallFix P9 m9 C9 cL_law 8 s #[Value.ref b] gx_G RL) (hK : gx_K E s) (hT9 : gx_T s) (hA : gx_Ok gx_tb 0 E s) (hX : va_X b 6 xs s s.heap) (hbl : b < s.heap.size) (hbA : ¬ gx_A 0 E.2.2 s.heap.size b) (hw : gx_W gx_tb 0 E s gs0 gt0 H locs) (hl : lv_has ls 8 [(4, .int 0), (3, .ref (E.2.2 + 233)), (2, .ref (E.2.2 + 199)), (1, .ref (E.2.2 + 0)), (0, .ref b)]) (kk : ∀ (σ : gI) (τ : gJ) (H : Heap) (locs : List Loc) (ls : Array Slot), gx_W gx_tb 0 E s σ τ H locs → lv_has ls 8 [(4, .int 0), (3, .ref (E.2.2 + 233)), (2, .ref (E.2.2 + 199)), (1, .ref (E.2.2 + 0)), (0, .ref b)] → W P9 l e9 room_1 s m9 #[Value.ref b] below meth C9 H locs 235 20159 Q (F0 m9 1745 ls [])) : W P9 l e9 room_1 s m9 #[Value.ref b] below meth C9 H locs 234 20153 Q (F0 m9 804 ls []) := by
  have hx := S.1
  have hb := S.2.1
  refine lv_aload_n hx hb dL_law_804 rfl (lv_at hl 3 rfl) ?_
  refine lv_aload_n hx hb dL_law_805 rfl (lv_at hl 4 rfl) ?_
  refine lv_iload hx hb dL_law_806 (lv_at hl 0 rfl) ?_
  refine lv_iconst (v := 1) hx hb dL_law_808 (by decide) ?_
  refine lv_iadd hx hb dL_law_809 ?_
  refine gx_top (v := 1) (by decide) ?_
  refine va_sld (i := 1) hx hb hX hbl hbA hw.2 (gx_in rfl (by decide) (by decide)) dL_law_810 ?_
  refine gx_top (v := xs 1) rfl ?_
  refine gx_cVi (As := [.int (xs 1)]) (rest := []) S hK hA hw (c_x_homes l (E := E) (xs 1)) cw_L_107 t_0 cl_12 ⟨Nat.le_of_ble_eq_true rfl, Nat.le_of_ble_eq_true rfl⟩ rfl hl.1 rfl (Nat.le_of_ble_eq_true rfl) ⟨Nat.le_of_ble_eq_true rfl, Nat.le_of_ble_eq_true rfl⟩ dL_law_811 (fun r_1 σ_1 τ_1 H locs hp hw => ?_)
  obtain ⟨er_1, hs_1, -⟩ := hp
  obtain rfl := er_1.symm
  refine lv_aload_n hx hb dL_law_814 rfl (lv_at hl 2 rfl) ?_
  refine lv_aload_n hx hb dL_law_815 rfl (lv_at hl 4 rfl) ?_
  refine lv_iload hx hb dL_law_816 (lv_at hl 0 rfl) ?_
  refine lv_iconst (v := 1) hx hb dL_law_818 (by decide) ?_
  refine lv_iadd hx hb dL_law_819 ?_
  refine gx_top (v := 1) (by decide) ?_
  refine va_sld (i := 1) hx hb hX hbl hbA hw.2 (gx_in rfl (by decide) (by decide)) dL_law_820 ?_
  refine gx_top (v := xs 1) rfl ?_
  refine gx_cVi (As := [.int (xs 1)]) (rest := [.int (if 0 ≤ (xs 1).toInt ∧ (xs 1).toInt ≤ 300 then 0 else (-1))]) S hK hA hw (c_m_homes l (E := E) (σ_1) (τ_1) (xs 1) (fun c9 k9 h9 => (hs_1 c9 k9 h9).trans (gs0_hi h9))) cw_L_110 t_199 cl_13 ⟨Nat.le_of_ble_eq_true rfl, Nat.le_of_ble_eq_true rfl⟩ rfl hl.1 rfl (Nat.le_of_ble_eq_true rfl) ⟨Nat.le_of_ble_eq_true rfl, Nat.le_of_ble_eq_true rfl⟩ dL_law_821 (fun r_2 σ_2 τ_2 H locs hp hw => ?_)
  obtain ⟨er_2, -, -⟩ := hp
  obtain rfl := er_2.symm
  refine lv_icmp_eq (tgt := 1745) hx hb dL_law_824 (by decide) (fun _ => ?_) (fun h => absurd rfl h)
  refine W.widen (k := 235) (n := 20159) (by omega) (by omega) ?_
  exact kk _ _ _ _ _ hw (lv_sub hl [0, 1, 2, 3, 4] rfl)
set_option maxHeartbeats 4000000 in
set_option maxRecDepth 100000 in
theorem lc_19 (l : Launch) (hl9 : l.stackTraces = false) (S : CallFix P9 m9 C9 cL_law 8 s #[Value.ref b] gx_G RL) (hK : gx_K E s) (hT9 : gx_T s) (hA : gx_Ok gx_tb 0 E s) (hX : va_X b 6 xs s s.heap) (hbl : b < s.heap.size) (hbA : ¬ gx_A 0 E.2.2 s.heap.size b) (hw : gx_W gx_tb 0 E s gs0 gt0 H locs) (hl : lv_has ls 8 [(4, .int 0), (3, .ref (E.2.2 + 233)), (2, .ref (E.2.2 + 199)), (1, .ref (E.2.2 + 0)), (0, .ref b)]) (kk : ∀ (σ : gI) (τ : gJ) (H : Heap) (locs : List Loc) (ls : Array Slot), gx_W gx_tb 0 E s σ τ H locs → lv_has ls 8 [(4, .int 0), (3, .ref (E.2.2 + 233)), (2, .ref (E.2.2 + 199)), (1, .ref (E.2.2 + 0)), (0, .ref b)] → W P9 l e9 room_1 s m9 #[Value.ref b] below meth C9 H locs 235 20159 Q (F0 m9 1745 ls [])) : W P9 l e9 room_1 s m9 #[Value.ref b] below meth C9 H locs 234 20153 Q (F0 m9 829 ls []) := by
  have hx := S.1
  have hb := S.2.1
  refine lv_aload_n hx hb dL_law_829 rfl (lv_at hl 3 rfl) ?_
  refine lv_aload_n hx hb dL_law_830 rfl (lv_at hl 4 rfl) ?_
  refine lv_iload hx hb dL_law_831 (lv_at hl 0 rfl) ?_
  refine lv_iconst (v := 1) hx hb dL_law_833 (by decide) ?_
  refine lv_iadd hx hb dL_law_834 ?_
  refine gx_top (v := 1) (by decide) ?_
  refine va_sld (i := 1) hx hb hX hbl hbA hw.2 (gx_in rfl (by decide) (by decide)) dL_law_835 ?_
  refine gx_top (v := xs 1) rfl ?_
  refine lv_aload_n hx hb dL_law_836 rfl (lv_at hl 4 rfl) ?_
  refine lv_iload hx hb dL_law_837 (lv_at hl 0 rfl) ?_
  refine lv_iconst (v := 2) hx hb dL_law_839 (by decide) ?_
  refine lv_iadd hx hb dL_law_840 ?_
  refine gx_top (v := 2) (by decide) ?_
  refine va_sld (i := 2) hx hb hX hbl hbA hw.2 (gx_in rfl (by decide) (by decide)) dL_law_841 ?_
  refine gx_top (v := xs 2) rfl ?_
  refine lv_aload_n hx hb dL_law_842 rfl (lv_at hl 4 rfl) ?_
  refine lv_iload hx hb dL_law_843 (lv_at hl 0 rfl) ?_
  refine lv_iconst (v := 3) hx hb dL_law_845 (by decide) ?_
  refine lv_iadd hx hb dL_law_846 ?_
  refine gx_top (v := 3) (by decide) ?_
  refine va_sld (i := 3) hx hb hX hbl hbA hw.2 (gx_in rfl (by decide) (by decide)) dL_law_847 ?_
  refine gx_top (v := xs 3) rfl ?_
  refine lv_aload_n hx hb dL_law_848 rfl (lv_at hl 4 rfl) ?_
  refine lv_iload hx hb dL_law_849 (lv_at hl 0 rfl) ?_
  refine lv_iconst (v := 4) hx hb dL_law_851 (by decide) ?_
  refine lv_iadd hx hb dL_law_852 ?_
  refine gx_top (v := 4) (by decide) ?_
  refine va_sld (i := 4) hx hb hX hbl hbA hw.2 (gx_in rfl (by decide) (by decide)) dL_law_853 ?_
  refine gx_top (v := xs 4) rfl ?_
  refine lv_aload_n hx hb dL_law_854 rfl (lv_at hl 4 rfl) ?_
  refine lv_iload hx hb dL_law_855 (lv_at hl 0 rfl) ?_
  refine lv_iconst (v := 5) hx hb dL_law_857 (by decide) ?_
  refine lv_iadd hx hb dL_law_858 ?_
  refine gx_top (v := 5) (by decide) ?_
  refine va_sld (i := 5) hx hb hX hbl hbA hw.2 (gx_in rfl (by decide) (by decide)) dL_law_859 ?_
  refine gx_top (v := xs 5) rfl ?_
  refine gx_cVi (As := [.int (xs 1), .int (xs 2), .int (xs 3), .int (xs 4), .int (xs 5)]) (rest := []) S hK hA hw (c_x_sail l (E := E) (xs 1) (xs 2) (xs 3) (xs 4) (xs 5)) cw_L_111 t_0 cl_12 ⟨Nat.le_of_ble_eq_true rfl, Nat.le_of_ble_eq_true rfl⟩ rfl hl.1 rfl (Nat.le_of_ble_eq_true rfl) ⟨Nat.le_of_ble_eq_true rfl, Nat.le_of_ble_eq_true rfl⟩ dL_law_860 (fun r_1 σ_1 τ_1 H locs hp hw => ?_)
  obtain ⟨er_1, hs_1, -⟩ := hp
  obtain rfl := er_1.symm
  refine lv_aload_n hx hb dL_law_863 rfl (lv_at hl 2 rfl) ?_
  refine lv_aload_n hx hb dL_law_864 rfl (lv_at hl 4 rfl) ?_
  refine lv_iload hx hb dL_law_865 (lv_at hl 0 rfl) ?_
  refine lv_iconst (v := 1) hx hb dL_law_867 (by decide) ?_
  refine lv_iadd hx hb dL_law_868 ?_
  refine gx_top (v := 1) (by decide) ?_
  refine va_sld (i := 1) hx hb hX hbl hbA hw.2 (gx_in rfl (by decide) (by decide)) dL_law_869 ?_
  refine gx_top (v := xs 1) rfl ?_
  refine lv_aload_n hx hb dL_law_870 rfl (lv_at hl 4 rfl) ?_
  refine lv_iload hx hb dL_law_871 (lv_at hl 0 rfl) ?_
  refine lv_iconst (v := 2) hx hb dL_law_873 (by decide) ?_
  refine lv_iadd hx hb dL_law_874 ?_
  refine gx_top (v := 2) (by decide) ?_
  refine va_sld (i := 2) hx hb hX hbl hbA hw.2 (gx_in rfl (by decide) (by decide)) dL_law_875 ?_
  refine gx_top (v := xs 2) rfl ?_
  refine lv_aload_n hx hb dL_law_876 rfl (lv_at hl 4 rfl) ?_
  refine lv_iload hx hb dL_law_877 (lv_at hl 0 rfl) ?_
  refine lv_iconst (v := 3) hx hb dL_law_879 (by decide) ?_
  refine lv_iadd hx hb dL_law_880 ?_
  refine gx_top (v := 3) (by decide) ?_
  refine va_sld (i := 3) hx hb hX hbl hbA hw.2 (gx_in rfl (by decide) (by decide)) dL_law_881 ?_
  refine gx_top (v := xs 3) rfl ?_
  refine lv_aload_n hx hb dL_law_882 rfl (lv_at hl 4 rfl) ?_
  refine lv_iload hx hb dL_law_883 (lv_at hl 0 rfl) ?_
  refine lv_iconst (v := 4) hx hb dL_law_885 (by decide) ?_
  refine lv_iadd hx hb dL_law_886 ?_
  refine gx_top (v := 4) (by decide) ?_
  refine va_sld (i := 4) hx hb hX hbl hbA hw.2 (gx_in rfl (by decide) (by decide)) dL_law_887 ?_
  refine gx_top (v := xs 4) rfl ?_
  refine lv_aload_n hx hb dL_law_888 rfl (lv_at hl 4 rfl) ?_
  refine lv_iload hx hb dL_law_889 (lv_at hl 0 rfl) ?_
  refine lv_iconst (v := 5) hx hb dL_law_891 (by decide) ?_
  refine lv_iadd hx hb dL_law_892 ?_
  refine gx_top (v := 5) (by decide) ?_
  refine va_sld (i := 5) hx hb hX hbl hbA hw.2 (gx_in rfl (by decide) (by decide)) dL_law_893 ?_
  refine gx_top (v := xs 5) rfl ?_
  refine gx_cVi (As := [.int (xs 1), .int (xs 2), .int (xs 3), .int (xs 4), .int (xs 5)]) (rest := [.int (-1)]) S hK hA hw (c_m_sail l (E := E) (σ_1) (τ_1) (xs 1) (xs 2) (xs 3) (xs 4) (xs 5) (fun c9 k9 h9 => (hs_1 c9 k9 h9).trans (gs0_hi h9))) cw_L_115 t_199 cl_13 ⟨Nat.le_of_ble_eq_true rfl, Nat.le_of_ble_eq_true rfl⟩ rfl hl.1 rfl (Nat.le_of_ble_eq_true rfl) ⟨Nat.le_of_ble_eq_true rfl, Nat.le_of_ble_eq_true rfl⟩ dL_law_894 (fun r_2 σ_2 τ_2 H locs hp hw => ?_)
  obtain ⟨er_2, -, -⟩ := hp
  obtain rfl := er_2.symm
  refine lv_icmp_eq (tgt := 1745) hx hb dL_law_897 (by decide) (fun _ => ?_) (fun h => absurd rfl h)
  refine W.widen (k := 235) (n := 20159) (by omega) (by omega) ?_
  exact kk _ _ _ _ _ hw (lv_sub hl [0, 1, 2, 3, 4] rfl)
set_option maxHeartbeats 4000000 in
set_option maxRecDepth 100000 in
theorem lc_20 (l : Launch) (hl9 : l.stackTraces = false) (S : CallFix P9 m9 C9 cL_law 8 s #[Value.ref b] gx_G RL) (hK : gx_K E s) (hT9 : gx_T s) (hA : gx_Ok gx_tb 0 E s) (hX : va_X b 6 xs s s.heap) (hbl : b < s.heap.size) (hbA : ¬ gx_A 0 E.2.2 s.heap.size b) (hw : gx_W gx_tb 0 E s gs0 gt0 H locs) (hl : lv_has ls 8 [(4, .int 0), (3, .ref (E.2.2 + 233)), (2, .ref (E.2.2 + 199)), (1, .ref (E.2.2 + 0)), (0, .ref b)]) (kk : ∀ (σ : gI) (τ : gJ) (H : Heap) (locs : List Loc) (ls : Array Slot), gx_W gx_tb 0 E s σ τ H locs → lv_has ls 8 [(4, .int 0), (3, .ref (E.2.2 + 233)), (2, .ref (E.2.2 + 199)), (1, .ref (E.2.2 + 0)), (0, .ref b)] → W P9 l e9 room_1 s m9 #[Value.ref b] below meth C9 H locs 235 20159 Q (F0 m9 1745 ls [])) : W P9 l e9 room_1 s m9 #[Value.ref b] below meth C9 H locs 234 20153 Q (F0 m9 902 ls []) := by
  have hx := S.1
  have hb := S.2.1
  refine lv_aload_n hx hb dL_law_902 rfl (lv_at hl 3 rfl) ?_
  refine lv_aload_n hx hb dL_law_903 rfl (lv_at hl 4 rfl) ?_
  refine lv_iload hx hb dL_law_904 (lv_at hl 0 rfl) ?_
  refine lv_iconst (v := 1) hx hb dL_law_906 (by decide) ?_
  refine lv_iadd hx hb dL_law_907 ?_
  refine gx_top (v := 1) (by decide) ?_
  refine va_sld (i := 1) hx hb hX hbl hbA hw.2 (gx_in rfl (by decide) (by decide)) dL_law_908 ?_
  refine gx_top (v := xs 1) rfl ?_
  refine lv_aload_n hx hb dL_law_909 rfl (lv_at hl 4 rfl) ?_
  refine lv_iload hx hb dL_law_910 (lv_at hl 0 rfl) ?_
  refine lv_iconst (v := 2) hx hb dL_law_912 (by decide) ?_
  refine lv_iadd hx hb dL_law_913 ?_
  refine gx_top (v := 2) (by decide) ?_
  refine va_sld (i := 2) hx hb hX hbl hbA hw.2 (gx_in rfl (by decide) (by decide)) dL_law_914 ?_
  refine gx_top (v := xs 2) rfl ?_
  refine lv_aload_n hx hb dL_law_915 rfl (lv_at hl 4 rfl) ?_
  refine lv_iload hx hb dL_law_916 (lv_at hl 0 rfl) ?_
  refine lv_iconst (v := 3) hx hb dL_law_918 (by decide) ?_
  refine lv_iadd hx hb dL_law_919 ?_
  refine gx_top (v := 3) (by decide) ?_
  refine va_sld (i := 3) hx hb hX hbl hbA hw.2 (gx_in rfl (by decide) (by decide)) dL_law_920 ?_
  refine gx_top (v := xs 3) rfl ?_
  refine gx_cVi (As := [.int (xs 1), .int (xs 2), .int (xs 3)]) (rest := []) S hK hA hw (c_x_soonest l (E := E) (xs 1) (xs 2) (xs 3)) cw_L_116 t_0 cl_12 ⟨Nat.le_of_ble_eq_true rfl, Nat.le_of_ble_eq_true rfl⟩ rfl hl.1 rfl (Nat.le_of_ble_eq_true rfl) ⟨Nat.le_of_ble_eq_true rfl, Nat.le_of_ble_eq_true rfl⟩ dL_law_921 (fun r_1 σ_1 τ_1 H locs hp hw => ?_)
  obtain ⟨er_1, hs_1, -⟩ := hp
  obtain rfl := er_1.symm
  refine lv_aload_n hx hb dL_law_924 rfl (lv_at hl 2 rfl) ?_
  refine lv_aload_n hx hb dL_law_925 rfl (lv_at hl 4 rfl) ?_
  refine lv_iload hx hb dL_law_926 (lv_at hl 0 rfl) ?_
  refine lv_iconst (v := 1) hx hb dL_law_928 (by decide) ?_
  refine lv_iadd hx hb dL_law_929 ?_
  refine gx_top (v := 1) (by decide) ?_
  refine va_sld (i := 1) hx hb hX hbl hbA hw.2 (gx_in rfl (by decide) (by decide)) dL_law_930 ?_
  refine gx_top (v := xs 1) rfl ?_
  refine lv_aload_n hx hb dL_law_931 rfl (lv_at hl 4 rfl) ?_
  refine lv_iload hx hb dL_law_932 (lv_at hl 0 rfl) ?_
  refine lv_iconst (v := 2) hx hb dL_law_934 (by decide) ?_
  refine lv_iadd hx hb dL_law_935 ?_
  refine gx_top (v := 2) (by decide) ?_
  refine va_sld (i := 2) hx hb hX hbl hbA hw.2 (gx_in rfl (by decide) (by decide)) dL_law_936 ?_
  refine gx_top (v := xs 2) rfl ?_
  refine lv_aload_n hx hb dL_law_937 rfl (lv_at hl 4 rfl) ?_
  refine lv_iload hx hb dL_law_938 (lv_at hl 0 rfl) ?_
  refine lv_iconst (v := 3) hx hb dL_law_940 (by decide) ?_
  refine lv_iadd hx hb dL_law_941 ?_
  refine gx_top (v := 3) (by decide) ?_
  refine va_sld (i := 3) hx hb hX hbl hbA hw.2 (gx_in rfl (by decide) (by decide)) dL_law_942 ?_
  refine gx_top (v := xs 3) rfl ?_
  refine gx_cVi (As := [.int (xs 1), .int (xs 2), .int (xs 3)]) (rest := [.int (-1)]) S hK hA hw (c_m_soonest l (E := E) (σ_1) (τ_1) (xs 1) (xs 2) (xs 3) (fun c9 k9 h9 => (hs_1 c9 k9 h9).trans (gs0_hi h9))) cw_L_120 t_199 cl_13 ⟨Nat.le_of_ble_eq_true rfl, Nat.le_of_ble_eq_true rfl⟩ rfl hl.1 rfl (Nat.le_of_ble_eq_true rfl) ⟨Nat.le_of_ble_eq_true rfl, Nat.le_of_ble_eq_true rfl⟩ dL_law_943 (fun r_2 σ_2 τ_2 H locs hp hw => ?_)
  obtain ⟨er_2, -, -⟩ := hp
  obtain rfl := er_2.symm
  refine lv_icmp_eq (tgt := 1745) hx hb dL_law_946 (by decide) (fun _ => ?_) (fun h => absurd rfl h)
  refine W.widen (k := 235) (n := 20159) (by omega) (by omega) ?_
  exact kk _ _ _ _ _ hw (lv_sub hl [0, 1, 2, 3, 4] rfl)
end LC16
