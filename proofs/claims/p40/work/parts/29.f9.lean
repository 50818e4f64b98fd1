section F9
variable {a9 v9 : Nat} {w9 : Value} {P9 : Program} {e9 : Env} {s : State} {m9 : MethodId} {below : List Frame} {meth : Method} {C9 : Code} {E : gE} {av : List Value}
/-! X12_ways -/
def C_X12_ways_41 (N : Nat) (rec_41 : gI → gJ → Int32 → Int32 → Int32 → Int32 → Int32 → Int32 → Int32 → Int32 → Int32 → Option (Int32 × gI × gJ)) (σ : gI) (τ : gJ) (x1 : Int32) (x2 : Int32) (x3 : Int32) (x4 : Int32) (x5 : Int32) (x6 : Int32) (x7 : Int32) (x8 : Int32) (x9 : Int32) : Option (Int32 × gI × gJ) := if x5 < x9 then (nm (up2 σ 199 1 0) fun σ_2 => bd (B_X12_enters_0 N σ_2 τ x7.toInt64) fun _ σ_3 τ_3 => bd (B_X12_enters_0 N σ_3 τ_3 x8.toInt64) fun _ σ_4 τ_4 => some (x6, σ_4, τ_4)) else (if x9 &&& (x5 ^^^ (-1)) = 0 then (nm (up2 σ 199 45 x9) fun σ_7 => bd (B_X12_sails_0 N σ_7 τ x1 x2 x3 0 x4) fun r_8 σ_8 τ_8 => if r_8 < 0 then (nm (x9 + 1) fun v_10 => rec_41 σ_8 τ_8 x1 x2 x3 x4 x5 x6 x7 x8 v_10) else (if 0 ≤ x7 then (nm (x6 + 1) fun v_12 => nm (x9 + 1) fun v_13 => rec_41 σ_8 τ_8 x1 x2 x3 x4 x5 v_12 x7 x9 v_13) else (nm (x6 + 1) fun v_14 => nm (x9 + 1) fun v_15 => rec_41 σ_8 τ_8 x1 x2 x3 x4 x5 v_14 x9 x9 v_15))) else (nm (x9 + 1) fun v_6 => rec_41 σ τ x1 x2 x3 x4 x5 x6 x7 x8 v_6))
def H_X12_ways_41 (N : Nat) : Nat → gI → gJ → Int32 → Int32 → Int32 → Int32 → Int32 → Int32 → Int32 → Int32 → Int32 → Option (Int32 × gI × gJ) := itn (fun rec_41 => C_X12_ways_41 N rec_41) (fun _ _ _ _ _ _ _ _ _ _ _ => none)
def B_X12_ways_0 (N : Nat) (σ : gI) (τ : gJ) (x1 : Int32) (x2 : Int32) (x3 : Int32) (x4 : Int32) : Option (Int32 × gI × gJ) := nm (up2 σ 199 0 0) fun σ_1 => bd (B_X12_canSail_0 N σ_1 τ x1 x2 x3 x4) fun r_2 σ_2 τ_2 => if r_2 = 0 then (some ((-1), σ_2, τ_2)) else (bd (B_X12_thinksNow_0 N σ_2 τ_2) fun _ σ_4 τ_4 => bd (B_X12_forks_0 N σ_4 τ_4) fun r_5 σ_5 τ_5 => H_X12_ways_41 N N σ_5 τ_5 x1 x2 x3 x4 r_5 0 (-1) (-1) 0)
set_option maxHeartbeats 4000000 in
set_option maxRecDepth 100000 in
theorem k_X12_ways_41 (l : Launch) (S : CallFix P9 m9 C9 cX12_ways 10 s av.toArray gx_G RX12) (hr : meth.sig.returnType = (some .int)) (hlk : meth.locks = false) (hK : gx_K E s) (N : Nat) (rec_41 : gI → gJ → Int32 → Int32 → Int32 → Int32 → Int32 → Int32 → Int32 → Int32 → Int32 → Option (Int32 × gI × gJ)) (hrec_41 : ∀ (σ : gI) (τ : gJ) (x1 : Int32) (x2 : Int32) (x3 : Int32) (x4 : Int32) (x5 : Int32) (x6 : Int32) (x7 : Int32) (x8 : Int32) (x9 : Int32) (r : Int32) (σ1 : gI) (τ1 : gJ) (H : Heap) (locs : List Loc) (ls : Array Slot), rec_41 σ τ x1 x2 x3 x4 x5 x6 x7 x8 x9 = some (r, σ1, τ1) → gx_W gx_tb gx_tb.length E s σ τ H locs → lv_has ls 10 [(0, .ref (E.2.2 + 199)), (1, .int x1), (2, .int x2), (3, .int x3), (4, .int x4), (5, .int x5), (6, .int x6), (7, .int x7), (8, .int x8), (9, .int x9)] → W P9 l e9 (gx_rm 9) s m9 av.toArray below meth C9 H locs 0 0 (gq_Qi below av s E r σ1 τ1) (F0 m9 41 ls [])) (σ : gI) (τ : gJ) (x1 : Int32) (x2 : Int32) (x3 : Int32) (x4 : Int32) (x5 : Int32) (x6 : Int32) (x7 : Int32) (x8 : Int32) (x9 : Int32) {r : Int32} {σ1 : gI} {τ1 : gJ} (h : C_X12_ways_41 N rec_41 σ τ x1 x2 x3 x4 x5 x6 x7 x8 x9 = some (r, σ1, τ1)) {H : Heap} {locs : List Loc} {ls : Array Slot} (hw : gx_W gx_tb gx_tb.length E s σ τ H locs) (hl : lv_has ls 10 [(0, .ref (E.2.2 + 199)), (1, .int x1), (2, .int x2), (3, .int x3), (4, .int x4), (5, .int x5), (6, .int x6), (7, .int x7), (8, .int x8), (9, .int x9)]) : W P9 l e9 (gx_rm 9) s m9 av.toArray below meth C9 H locs 0 0 (gq_Qi below av s E r σ1 τ1) (F0 m9 41 ls []) := by
  have hx := S.1
  have hb := S.2.1
  unfold C_X12_ways_41 at h
  refine lv_iload hx hb dX12_ways_41 (lv_at hl 9 rfl) ?_
  refine lv_iload hx hb dX12_ways_43 (lv_at hl 5 rfl) ?_
  refine lv_icmp_gt (tgt := 104) hx hb dX12_ways_45 (by decide) (fun c_1 => ?_) (fun c_1 => ?_)
  · rw [if_pos c_1] at h
    refine lv_aload_n hx hb dX12_ways_104 rfl (lv_at hl 0 rfl) ?_
    refine lv_iconst (v := 0) hx hb dX12_ways_105 (by decide) ?_
    refine gx_put S hK gx_ok hw t_199 cl_13 1 (by decide) rfl mw_1415 rfl rfl (ty := .int) (v := 0) (by decide +kernel) rfl rfl dX12_ways_106 (fun H locs hw => ?_)
    obtain ⟨σ_2, e_2, h⟩ := nm_some h
    rw [← e_2] at hw
    refine lv_aload_n hx hb dX12_ways_109 rfl (lv_at hl 0 rfl) ?_
    refine lv_iload hx hb dX12_ways_110 (lv_at hl 7 rfl) ?_
    refine lv_i2l (v := x7.toInt64) hx hb dX12_ways_112 rfl ?_
    obtain ⟨u_3, σ_3, τ_3, q_3, h⟩ := bd_some h
    refine gx_cVv (As := [.long x7.toInt64]) (rest := []) S hK gx_ok hw (c_X12_enters l (E := E) N σ_2 τ x7.toInt64 q_3) cw_X12_122 t_199 cl_13 ⟨Nat.le_of_ble_eq_true rfl, Nat.le_of_ble_eq_true rfl⟩ rfl hl.1 rfl (Nat.le_of_ble_eq_true rfl) ⟨Nat.le_of_ble_eq_true rfl, Nat.le_of_ble_eq_true rfl⟩ dX12_ways_113 (fun σ9 τ9 H locs hp hw => ?_)
    obtain ⟨rfl, rfl⟩ := hp
    refine lv_aload_n hx hb dX12_ways_116 rfl (lv_at hl 0 rfl) ?_
    refine lv_iload hx hb dX12_ways_117 (lv_at hl 8 rfl) ?_
    refine lv_i2l (v := x8.toInt64) hx hb dX12_ways_119 rfl ?_
    obtain ⟨u_4, σ_4, τ_4, q_4, h⟩ := bd_some h
    refine gx_cVv (As := [.long x8.toInt64]) (rest := []) S hK gx_ok hw (c_X12_enters l (E := E) N σ_3 τ_3 x8.toInt64 q_4) cw_X12_122 t_199 cl_13 ⟨Nat.le_of_ble_eq_true rfl, Nat.le_of_ble_eq_true rfl⟩ rfl hl.1 rfl (Nat.le_of_ble_eq_true rfl) ⟨Nat.le_of_ble_eq_true rfl, Nat.le_of_ble_eq_true rfl⟩ dX12_ways_120 (fun σ9 τ9 H locs hp hw => ?_)
    obtain ⟨rfl, rfl⟩ := hp
    refine lv_iload hx hb dX12_ways_123 (lv_at hl 6 rfl) ?_
    obtain ⟨rfl, rfl, rfl⟩ := sm_inj h
    exact gx_ri (post := gq_p x6 σ_4 τ_4) (v := x6) S hr hlk hw rfl dX12_ways_125 ⟨rfl, rfl, rfl⟩
  · rw [if_neg c_1] at h
    refine lv_iload hx hb dX12_ways_48 (lv_at hl 9 rfl) ?_
    refine lv_iload hx hb dX12_ways_50 (lv_at hl 5 rfl) ?_
    refine lv_iconst (v := (-1)) hx hb dX12_ways_52 (by decide) ?_
    refine lv_ixor hx hb dX12_ways_53 ?_
    refine lv_iand hx hb dX12_ways_54 ?_
    refine lv_if_ne (tgt := 98) hx hb dX12_ways_55 (by decide) (fun c_5 => ?_) (fun c_5 => ?_)
    · rw [if_neg c_5] at h
      refine lv_iinc (v := x9 + 1) (lv' := [(9, .int (x9 + 1)), (0, .ref (E.2.2 + 199)), (1, .int x1), (2, .int x2), (3, .int x3), (4, .int x4), (5, .int x5), (6, .int x6), (7, .int x7), (8, .int x8)]) hx hb dX12_ways_98 hl (k := 9) rfl rfl (by decide) rfl (fun ls hl => ?_)
      obtain ⟨v_6, e_6, h⟩ := nm_some h
      have hl : lv_has ls 10 [(9, .int v_6), (0, .ref (E.2.2 + 199)), (1, .int x1), (2, .int x2), (3, .int x3), (4, .int x4), (5, .int x5), (6, .int x6), (7, .int x7), (8, .int x8)] := by rw [e_6]; exact hl
      refine lv_goto (tgt := 41) hx hb dX12_ways_101 (by decide) ?_
      exact hrec_41 σ τ x1 x2 x3 x4 x5 x6 x7 x8 v_6 _ _ _ _ _ _ h hw (lv_sub hl [1, 2, 3, 4, 5, 6, 7, 8, 9, 0] rfl)
    · rw [if_pos c_5] at h
      refine lv_aload_n hx hb dX12_ways_58 rfl (lv_at hl 0 rfl) ?_
      refine lv_iload hx hb dX12_ways_59 (lv_at hl 9 rfl) ?_
      refine gx_put S hK gx_ok hw t_199 cl_13 45 (by decide) rfl mw_1459 rfl rfl (ty := .int) (v := x9) (by decide +kernel) rfl rfl dX12_ways_61 (fun H locs hw => ?_)
      obtain ⟨σ_7, e_7, h⟩ := nm_some h
      rw [← e_7] at hw
      refine lv_aload_n hx hb dX12_ways_64 rfl (lv_at hl 0 rfl) ?_
      refine lv_iload_n hx hb dX12_ways_65 rfl (lv_at hl 1 rfl) ?_
      refine lv_iload_n hx hb dX12_ways_66 rfl (lv_at hl 2 rfl) ?_
      refine lv_iload_n hx hb dX12_ways_67 rfl (lv_at hl 3 rfl) ?_
      refine lv_iconst (v := 0) hx hb dX12_ways_68 (by decide) ?_
      refine lv_iload hx hb dX12_ways_69 (lv_at hl 4 rfl) ?_
      obtain ⟨r_8, σ_8, τ_8, q_8, h⟩ := bd_some h
      refine gx_cVi (As := [.int x1, .int x2, .int x3, .int 0, .int x4]) (rest := []) S hK gx_ok hw (c_X12_sails l (E := E) N σ_7 τ x1 x2 x3 0 x4 q_8) cw_X12_412 t_199 cl_13 ⟨Nat.le_of_ble_eq_true rfl, Nat.le_of_ble_eq_true rfl⟩ rfl hl.1 rfl (Nat.le_of_ble_eq_true rfl) ⟨Nat.le_of_ble_eq_true rfl, Nat.le_of_ble_eq_true rfl⟩ dX12_ways_71 (fun r9 σ9 τ9 H locs hp hw => ?_)
      obtain ⟨rfl, rfl, rfl⟩ := hp
      refine lv_if_lt (tgt := 98) hx hb dX12_ways_74 (by decide) (fun c_9 => ?_) (fun c_9 => ?_)
      · rw [if_pos c_9] at h
        refine lv_iinc (v := x9 + 1) (lv' := [(9, .int (x9 + 1)), (0, .ref (E.2.2 + 199)), (1, .int x1), (2, .int x2), (3, .int x3), (4, .int x4), (5, .int x5), (6, .int x6), (7, .int x7), (8, .int x8)]) hx hb dX12_ways_98 hl (k := 9) rfl rfl (by decide) rfl (fun ls hl => ?_)
        obtain ⟨v_10, e_10, h⟩ := nm_some h
        have hl : lv_has ls 10 [(9, .int v_10), (0, .ref (E.2.2 + 199)), (1, .int x1), (2, .int x2), (3, .int x3), (4, .int x4), (5, .int x5), (6, .int x6), (7, .int x7), (8, .int x8)] := by rw [e_10]; exact hl
        refine lv_goto (tgt := 41) hx hb dX12_ways_101 (by decide) ?_
        exact hrec_41 σ_8 τ_8 x1 x2 x3 x4 x5 x6 x7 x8 v_10 _ _ _ _ _ _ h hw (lv_sub hl [1, 2, 3, 4, 5, 6, 7, 8, 9, 0] rfl)
      · rw [if_neg c_9] at h
        refine lv_iload hx hb dX12_ways_77 (lv_at hl 7 rfl) ?_
        refine lv_if_ge (tgt := 87) hx hb dX12_ways_79 (by decide) (fun c_11 => ?_) (fun c_11 => ?_)
        · rw [if_pos c_11] at h
          refine lv_iload hx hb dX12_ways_87 (lv_at hl 7 rfl) ?_
          refine lv_istore (lv' := [(7, .int x7), (0, .ref (E.2.2 + 199)), (1, .int x1), (2, .int x2), (3, .int x3), (4, .int x4), (5, .int x5), (6, .int x6), (8, .int x8), (9, .int x9)]) hx hb dX12_ways_89 hl (by decide) rfl (fun ls hl => ?_)
          refine lv_iload hx hb dX12_ways_91 (lv_at hl 9 rfl) ?_
          refine lv_istore (lv' := [(8, .int x9), (7, .int x7), (0, .ref (E.2.2 + 199)), (1, .int x1), (2, .int x2), (3, .int x3), (4, .int x4), (5, .int x5), (6, .int x6), (9, .int x9)]) hx hb dX12_ways_93 hl (by decide) rfl (fun ls hl => ?_)
          refine lv_iinc (v := x6 + 1) (lv' := [(6, .int (x6 + 1)), (8, .int x9), (7, .int x7), (0, .ref (E.2.2 + 199)), (1, .int x1), (2, .int x2), (3, .int x3), (4, .int x4), (5, .int x5), (9, .int x9)]) hx hb dX12_ways_95 hl (k := 8) rfl rfl (by decide) rfl (fun ls hl => ?_)
          obtain ⟨v_12, e_12, h⟩ := nm_some h
          have hl : lv_has ls 10 [(6, .int v_12), (8, .int x9), (7, .int x7), (0, .ref (E.2.2 + 199)), (1, .int x1), (2, .int x2), (3, .int x3), (4, .int x4), (5, .int x5), (9, .int x9)] := by rw [e_12]; exact hl
          refine lv_iinc (v := x9 + 1) (lv' := [(9, .int (x9 + 1)), (6, .int v_12), (8, .int x9), (7, .int x7), (0, .ref (E.2.2 + 199)), (1, .int x1), (2, .int x2), (3, .int x3), (4, .int x4), (5, .int x5)]) hx hb dX12_ways_98 hl (k := 9) rfl rfl (by decide) rfl (fun ls hl => ?_)
          obtain ⟨v_13, e_13, h⟩ := nm_some h
          have hl : lv_has ls 10 [(9, .int v_13), (6, .int v_12), (8, .int x9), (7, .int x7), (0, .ref (E.2.2 + 199)), (1, .int x1), (2, .int x2), (3, .int x3), (4, .int x4), (5, .int x5)] := by rw [e_13]; exact hl
          refine lv_goto (tgt := 41) hx hb dX12_ways_101 (by decide) ?_
          exact hrec_41 σ_8 τ_8 x1 x2 x3 x4 x5 v_12 x7 x9 v_13 _ _ _ _ _ _ h hw (lv_sub hl [4, 5, 6, 7, 8, 9, 1, 3, 2, 0] rfl)
        · rw [if_neg c_11] at h
          refine lv_iload hx hb dX12_ways_82 (lv_at hl 9 rfl) ?_
          refine lv_goto (tgt := 89) hx hb dX12_ways_84 (by decide) ?_
          refine lv_istore (lv' := [(7, .int x9), (0, .ref (E.2.2 + 199)), (1, .int x1), (2, .int x2), (3, .int x3), (4, .int x4), (5, .int x5), (6, .int x6), (8, .int x8), (9, .int x9)]) hx hb dX12_ways_89 hl (by decide) rfl (fun ls hl => ?_)
          refine lv_iload hx hb dX12_ways_91 (lv_at hl 9 rfl) ?_
          refine lv_istore (lv' := [(8, .int x9), (7, .int x9), (0, .ref (E.2.2 + 199)), (1, .int x1), (2, .int x2), (3, .int x3), (4, .int x4), (5, .int x5), (6, .int x6), (9, .int x9)]) hx hb dX12_ways_93 hl (by decide) rfl (fun ls hl => ?_)
          refine lv_iinc (v := x6 + 1) (lv' := [(6, .int (x6 + 1)), (8, .int x9), (7, .int x9), (0, .ref (E.2.2 + 199)), (1, .int x1), (2, .int x2), (3, .int x3), (4, .int x4), (5, .int x5), (9, .int x9)]) hx hb dX12_ways_95 hl (k := 8) rfl rfl (by decide) rfl (fun ls hl => ?_)
          obtain ⟨v_14, e_14, h⟩ := nm_some h
          have hl : lv_has ls 10 [(6, .int v_14), (8, .int x9), (7, .int x9), (0, .ref (E.2.2 + 199)), (1, .int x1), (2, .int x2), (3, .int x3), (4, .int x4), (5, .int x5), (9, .int x9)] := by rw [e_14]; exact hl
          refine lv_iinc (v := x9 + 1) (lv' := [(9, .int (x9 + 1)), (6, .int v_14), (8, .int x9), (7, .int x9), (0, .ref (E.2.2 + 199)), (1, .int x1), (2, .int x2), (3, .int x3), (4, .int x4), (5, .int x5)]) hx hb dX12_ways_98 hl (k := 9) rfl rfl (by decide) rfl (fun ls hl => ?_)
          obtain ⟨v_15, e_15, h⟩ := nm_some h
          have hl : lv_has ls 10 [(9, .int v_15), (6, .int v_14), (8, .int x9), (7, .int x9), (0, .ref (E.2.2 + 199)), (1, .int x1), (2, .int x2), (3, .int x3), (4, .int x4), (5, .int x5)] := by rw [e_15]; exact hl
          refine lv_goto (tgt := 41) hx hb dX12_ways_101 (by decide) ?_
          exact hrec_41 σ_8 τ_8 x1 x2 x3 x4 x5 v_14 x9 x9 v_15 _ _ _ _ _ _ h hw (lv_sub hl [4, 5, 6, 7, 8, 9, 1, 3, 2, 0] rfl)
set_option maxHeartbeats 4000000 in
set_option maxRecDepth 100000 in
theorem h_X12_ways_41 (l : Launch) (S : CallFix P9 m9 C9 cX12_ways 10 s av.toArray gx_G RX12) (hr : meth.sig.returnType = (some .int)) (hlk : meth.locks = false) (hK : gx_K E s) (N : Nat) : ∀ (n : Nat) (σ : gI) (τ : gJ) (x1 : Int32) (x2 : Int32) (x3 : Int32) (x4 : Int32) (x5 : Int32) (x6 : Int32) (x7 : Int32) (x8 : Int32) (x9 : Int32) (r : Int32) (σ1 : gI) (τ1 : gJ), H_X12_ways_41 N n σ τ x1 x2 x3 x4 x5 x6 x7 x8 x9 = some (r, σ1, τ1) → ∀ (H : Heap) (locs : List Loc) (ls : Array Slot), gx_W gx_tb gx_tb.length E s σ τ H locs → lv_has ls 10 [(0, .ref (E.2.2 + 199)), (1, .int x1), (2, .int x2), (3, .int x3), (4, .int x4), (5, .int x5), (6, .int x6), (7, .int x7), (8, .int x8), (9, .int x9)] → W P9 l e9 (gx_rm 9) s m9 av.toArray below meth C9 H locs 0 0 (gq_Qi below av s E r σ1 τ1) (F0 m9 41 ls []) := by
  intro n
  induction n with
  | zero => intro σ τ x1 x2 x3 x4 x5 x6 x7 x8 x9 r σ1 τ1 h; cases h
  | succ n ih =>
    intro σ τ x1 x2 x3 x4 x5 x6 x7 x8 x9 r σ1 τ1 h H locs ls hw hl
    exact k_X12_ways_41 l S hr hlk hK N (H_X12_ways_41 N n) (fun σ τ x1 x2 x3 x4 x5 x6 x7 x8 x9 r σ1 τ1 H locs ls h hw hl => ih σ τ x1 x2 x3 x4 x5 x6 x7 x8 x9 r σ1 τ1 h H locs ls hw hl) σ τ x1 x2 x3 x4 x5 x6 x7 x8 x9 h hw hl
set_option maxHeartbeats 4000000 in
set_option maxRecDepth 100000 in
theorem b_X12_ways_0 (l : Launch) (S : CallFix P9 m9 C9 cX12_ways 10 s av.toArray gx_G RX12) (hr : meth.sig.returnType = (some .int)) (hlk : meth.locks = false) (hK : gx_K E s) (N : Nat) (σ : gI) (τ : gJ) (x1 : Int32) (x2 : Int32) (x3 : Int32) (x4 : Int32) {r : Int32} {σ1 : gI} {τ1 : gJ} (h : B_X12_ways_0 N σ τ x1 x2 x3 x4 = some (r, σ1, τ1)) {H : Heap} {locs : List Loc} {ls : Array Slot} (hw : gx_W gx_tb gx_tb.length E s σ τ H locs) (hl : lv_has ls 10 [(0, .ref (E.2.2 + 199)), (1, .int x1), (2, .int x2), (3, .int x3), (4, .int x4)]) : W P9 l e9 (gx_rm 9) s m9 av.toArray below meth C9 H locs 0 0 (gq_Qi below av s E r σ1 τ1) (F0 m9 0 ls []) := by
  have hx := S.1
  have hb := S.2.1
  unfold B_X12_ways_0 at h
  refine lv_aload_n hx hb dX12_ways_0 rfl (lv_at hl 0 rfl) ?_
  refine lv_iconst (v := 0) hx hb dX12_ways_1 (by decide) ?_
  refine gx_put S hK gx_ok hw t_199 cl_13 0 (by decide) rfl mw_1414 rfl rfl (ty := .int) (v := 0) (by decide +kernel) rfl rfl dX12_ways_2 (fun H locs hw => ?_)
  obtain ⟨σ_1, e_1, h⟩ := nm_some h
  rw [← e_1] at hw
  refine lv_aload_n hx hb dX12_ways_5 rfl (lv_at hl 0 rfl) ?_
  refine lv_iload_n hx hb dX12_ways_6 rfl (lv_at hl 1 rfl) ?_
  refine lv_iload_n hx hb dX12_ways_7 rfl (lv_at hl 2 rfl) ?_
  refine lv_iload_n hx hb dX12_ways_8 rfl (lv_at hl 3 rfl) ?_
  refine lv_iload hx hb dX12_ways_9 (lv_at hl 4 rfl) ?_
  obtain ⟨r_2, σ_2, τ_2, q_2, h⟩ := bd_some h
  refine gx_cVi (As := [.int x1, .int x2, .int x3, .int x4]) (rest := []) S hK gx_ok hw (c_X12_canSail l (E := E) N σ_1 τ x1 x2 x3 x4 q_2) cw_X12_405 t_199 cl_13 ⟨Nat.le_of_ble_eq_true rfl, Nat.le_of_ble_eq_true rfl⟩ rfl hl.1 rfl (Nat.le_of_ble_eq_true rfl) ⟨Nat.le_of_ble_eq_true rfl, Nat.le_of_ble_eq_true rfl⟩ dX12_ways_11 (fun r9 σ9 τ9 H locs hp hw => ?_)
  obtain ⟨rfl, rfl, rfl⟩ := hp
  refine lv_if_ne (tgt := 19) hx hb dX12_ways_14 (by decide) (fun c_3 => ?_) (fun c_3 => ?_)
  · rw [if_neg c_3] at h
    refine lv_aload_n hx hb dX12_ways_19 rfl (lv_at hl 0 rfl) ?_
    obtain ⟨u_4, σ_4, τ_4, q_4, h⟩ := bd_some h
    refine gx_cVv (As := []) (rest := []) S hK gx_ok hw (c_X12_thinksNow l (E := E) N σ_2 τ_2 q_4) cw_X12_409 t_199 cl_13 ⟨Nat.le_of_ble_eq_true rfl, Nat.le_of_ble_eq_true rfl⟩ rfl hl.1 rfl (Nat.le_of_ble_eq_true rfl) ⟨Nat.le_of_ble_eq_true rfl, Nat.le_of_ble_eq_true rfl⟩ dX12_ways_20 (fun σ9 τ9 H locs hp hw => ?_)
    obtain ⟨rfl, rfl⟩ := hp
    refine lv_aload_n hx hb dX12_ways_23 rfl (lv_at hl 0 rfl) ?_
    obtain ⟨r_5, σ_5, τ_5, q_5, h⟩ := bd_some h
    refine gx_cVi (As := []) (rest := []) S hK gx_ok hw (c_X12_forks l (E := E) N σ_4 τ_4 q_5) cw_X12_416 t_199 cl_13 ⟨Nat.le_of_ble_eq_true rfl, Nat.le_of_ble_eq_true rfl⟩ rfl hl.1 rfl (Nat.le_of_ble_eq_true rfl) ⟨Nat.le_of_ble_eq_true rfl, Nat.le_of_ble_eq_true rfl⟩ dX12_ways_24 (fun r9 σ9 τ9 H locs hp hw => ?_)
    obtain ⟨rfl, rfl, rfl⟩ := hp
    refine lv_istore (lv' := [(5, .int r_5), (0, .ref (E.2.2 + 199)), (1, .int x1), (2, .int x2), (3, .int x3), (4, .int x4)]) hx hb dX12_ways_27 hl (by decide) rfl (fun ls hl => ?_)
    refine lv_iconst (v := 0) hx hb dX12_ways_29 (by decide) ?_
    refine lv_istore (lv' := [(6, .int 0), (5, .int r_5), (0, .ref (E.2.2 + 199)), (1, .int x1), (2, .int x2), (3, .int x3), (4, .int x4)]) hx hb dX12_ways_30 hl (by decide) rfl (fun ls hl => ?_)
    refine lv_iconst (v := (-1)) hx hb dX12_ways_32 (by decide) ?_
    refine lv_istore (lv' := [(7, .int (-1)), (6, .int 0), (5, .int r_5), (0, .ref (E.2.2 + 199)), (1, .int x1), (2, .int x2), (3, .int x3), (4, .int x4)]) hx hb dX12_ways_33 hl (by decide) rfl (fun ls hl => ?_)
    refine lv_iconst (v := (-1)) hx hb dX12_ways_35 (by decide) ?_
    refine lv_istore (lv' := [(8, .int (-1)), (7, .int (-1)), (6, .int 0), (5, .int r_5), (0, .ref (E.2.2 + 199)), (1, .int x1), (2, .int x2), (3, .int x3), (4, .int x4)]) hx hb dX12_ways_36 hl (by decide) rfl (fun ls hl => ?_)
    refine lv_iconst (v := 0) hx hb dX12_ways_38 (by decide) ?_
    refine lv_istore (lv' := [(9, .int 0), (8, .int (-1)), (7, .int (-1)), (6, .int 0), (5, .int r_5), (0, .ref (E.2.2 + 199)), (1, .int x1), (2, .int x2), (3, .int x3), (4, .int x4)]) hx hb dX12_ways_39 hl (by decide) rfl (fun ls hl => ?_)
    exact h_X12_ways_41 l S hr hlk hK N N σ_5 τ_5 x1 x2 x3 x4 r_5 0 (-1) (-1) 0 _ _ _ h _ _ _ hw (lv_sub hl [5, 6, 7, 8, 9, 4, 3, 2, 1, 0] rfl)
  · rw [if_pos c_3] at h
    refine lv_iconst (v := (-1)) hx hb dX12_ways_17 (by decide) ?_
    obtain ⟨rfl, rfl, rfl⟩ := sm_inj h
    exact gx_ri (post := gq_p (-1) σ_2 τ_2) (v := (-1)) S hr hlk hw rfl dX12_ways_18 ⟨rfl, rfl, rfl⟩
set_option maxHeartbeats 4000000 in
set_option maxRecDepth 100000 in
theorem c_X12_ways (l : Launch) {E : gE} (N : Nat) (σ : gI) (τ : gJ) (x1 : Int32) (x2 : Int32) (x3 : Int32) (x4 : Int32) {r : Int32} {σ1 : gI} {τ1 : gJ} (h : B_X12_ways_0 N σ τ x1 x2 x3 x4 = some (r, σ1, τ1)) : gx_Mi l yX12_ways cX12_ways 10 (some .int) 9 gx_tb E σ τ [.ref (E.2.2 + 199), .int x1, .int x2, .int x3, .int x4] (gq_p r σ1 τ1) := by
  refine gx_bi (by decide +kernel) (Nat.le_of_ble_eq_true rfl) ?_
  intro P9 e9 s m9 below meth C9 S hr hlk hK hw ls hl
  have hl : lv_has ls 10 [(0, .ref (E.2.2 + 199)), (1, .int x1), (2, .int x2), (3, .int x3), (4, .int x4)] := hl
  exact b_X12_ways_0 l S hr hlk hK N σ τ x1 x2 x3 x4 h hw hl
/-! X12_where -/
def B_X12_where_0 (N : Nat) (σ : gI) (τ : gJ) (x1 : Int32) (x2 : Int32) : Option (Int32 × gI × gJ) := nm (up2 σ 199 0 0) fun σ_1 => bd (B_X12_isThing_0 N σ_1 τ x1) fun r_2 σ_2 τ_2 => if r_2 = 0 then (some ((-1), σ_2, τ_2)) else (bd (B_X12_in_0 N σ_2 τ_2 x2.toInt64 0 300) fun r_4 σ_4 τ_4 => if r_4 = 0 then (some ((-1), σ_4, τ_4)) else (bd (B_X12_goesOn_0 N σ_4 τ_4 x2) fun _ σ_6 τ_6 => nm (up2 σ_6 199 1 0) fun σ_7 => ck ((7 * x1) + 4) 45 fun j_8 => bd (B_X12_enters_0 N σ_7 τ_6 ((σ_7 207 j_8).toInt64)) fun _ σ_9 τ_9 => ck ((7 * x1) + 1) 45 fun j_10 => bd (B_X12_enters_0 N σ_9 τ_9 ((σ_9 207 j_10).toInt64)) fun _ σ_11 τ_11 => ck ((7 * x1) + 2) 45 fun j_12 => bd (B_X12_enters_0 N σ_11 τ_11 ((σ_11 207 j_12).toInt64)) fun _ σ_13 τ_13 => ck ((7 * x1) + 0) 45 fun j_14 => some (σ_13 207 j_14, σ_13, τ_13)))
set_option maxHeartbeats 4000000 in
set_option maxRecDepth 100000 in
theorem b_X12_where_0 (l : Launch) (S : CallFix P9 m9 C9 cX12_where 3 s av.toArray gx_G RX12) (hr : meth.sig.returnType = (some .int)) (hlk : meth.locks = false) (hK : gx_K E s) (N : Nat) (σ : gI) (τ : gJ) (x1 : Int32) (x2 : Int32) {r : Int32} {σ1 : gI} {τ1 : gJ} (h : B_X12_where_0 N σ τ x1 x2 = some (r, σ1, τ1)) {H : Heap} {locs : List Loc} {ls : Array Slot} (hw : gx_W gx_tb gx_tb.length E s σ τ H locs) (hl : lv_has ls 3 [(0, .ref (E.2.2 + 199)), (1, .int x1), (2, .int x2)]) : W P9 l e9 (gx_rm 7) s m9 av.toArray below meth C9 H locs 0 0 (gq_Qi below av s E r σ1 τ1) (F0 m9 0 ls []) := by
  have hx := S.1
  have hb := S.2.1
  unfold B_X12_where_0 at h
  refine lv_aload_n hx hb dX12_where_0 rfl (lv_at hl 0 rfl) ?_
  refine lv_iconst (v := 0) hx hb dX12_where_1 (by decide) ?_
  refine gx_put S hK gx_ok hw t_199 cl_13 0 (by decide) rfl mw_1414 rfl rfl (ty := .int) (v := 0) (by decide +kernel) rfl rfl dX12_where_2 (fun H locs hw => ?_)
  obtain ⟨σ_1, e_1, h⟩ := nm_some h
  rw [← e_1] at hw
  refine lv_aload_n hx hb dX12_where_5 rfl (lv_at hl 0 rfl) ?_
  refine lv_iload_n hx hb dX12_where_6 rfl (lv_at hl 1 rfl) ?_
  obtain ⟨r_2, σ_2, τ_2, q_2, h⟩ := bd_some h
  refine gx_cVi (As := [.int x1]) (rest := []) S hK gx_ok hw (c_X12_isThing l (E := E) N σ_1 τ x1 q_2) cw_X12_309 t_199 cl_13 ⟨Nat.le_of_ble_eq_true rfl, Nat.le_of_ble_eq_true rfl⟩ rfl hl.1 rfl (Nat.le_of_ble_eq_true rfl) ⟨Nat.le_of_ble_eq_true rfl, Nat.le_of_ble_eq_true rfl⟩ dX12_where_7 (fun r9 σ9 τ9 H locs hp hw => ?_)
  obtain ⟨rfl, rfl, rfl⟩ := hp
  refine lv_if_eq (tgt := 25) hx hb dX12_where_10 (by decide) (fun c_3 => ?_) (fun c_3 => ?_)
  · rw [if_pos c_3] at h
    refine lv_iconst (v := (-1)) hx hb dX12_where_25 (by decide) ?_
    obtain ⟨rfl, rfl, rfl⟩ := sm_inj h
    exact gx_ri (post := gq_p (-1) σ_2 τ_2) (v := (-1)) S hr hlk hw rfl dX12_where_26 ⟨rfl, rfl, rfl⟩
  · rw [if_neg c_3] at h
    refine lv_iload_n hx hb dX12_where_13 rfl (lv_at hl 2 rfl) ?_
    refine lv_i2l (v := x2.toInt64) hx hb dX12_where_14 rfl ?_
    refine lv_lconst (v := 0) hx hb dX12_where_15 (by decide) ?_
    refine lv_ldc2 (v := 300) hx hb S.2.2.2.1 (S.2.2.2.2 _ mw_1923) dX12_where_16 ?_
    obtain ⟨r_4, σ_4, τ_4, q_4, h⟩ := bd_some h
    refine gx_cSi (As := [.long x2.toInt64, .long 0, .long 300]) (rest := []) S hK gx_ok hw (c_X12_in l (E := E) N σ_2 τ_2 x2.toInt64 0 300 q_4) cw_X12_129 ⟨Nat.le_of_ble_eq_true rfl, Nat.le_of_ble_eq_true rfl⟩ rfl hl.1 rfl (Nat.le_of_ble_eq_true rfl) ⟨Nat.le_of_ble_eq_true rfl, Nat.le_of_ble_eq_true rfl⟩ dX12_where_19 (fun r9 σ9 τ9 H locs hp hw => ?_)
    obtain ⟨rfl, rfl, rfl⟩ := hp
    refine lv_if_ne (tgt := 27) hx hb dX12_where_22 (by decide) (fun c_5 => ?_) (fun c_5 => ?_)
    · rw [if_neg c_5] at h
      refine lv_aload_n hx hb dX12_where_27 rfl (lv_at hl 0 rfl) ?_
      refine lv_iload_n hx hb dX12_where_28 rfl (lv_at hl 2 rfl) ?_
      obtain ⟨u_6, σ_6, τ_6, q_6, h⟩ := bd_some h
      refine gx_cVv (As := [.int x2]) (rest := []) S hK gx_ok hw (c_X12_goesOn l (E := E) N σ_4 τ_4 x2 q_6) cw_X12_380 t_199 cl_13 ⟨Nat.le_of_ble_eq_true rfl, Nat.le_of_ble_eq_true rfl⟩ rfl hl.1 rfl (Nat.le_of_ble_eq_true rfl) ⟨Nat.le_of_ble_eq_true rfl, Nat.le_of_ble_eq_true rfl⟩ dX12_where_29 (fun σ9 τ9 H locs hp hw => ?_)
      obtain ⟨rfl, rfl⟩ := hp
      refine lv_aload_n hx hb dX12_where_32 rfl (lv_at hl 0 rfl) ?_
      refine lv_iconst (v := 0) hx hb dX12_where_33 (by decide) ?_
      refine gx_put S hK gx_ok hw t_199 cl_13 1 (by decide) rfl mw_1415 rfl rfl (ty := .int) (v := 0) (by decide +kernel) rfl rfl dX12_where_34 (fun H locs hw => ?_)
      obtain ⟨σ_7, e_7, h⟩ := nm_some h
      rw [← e_7] at hw
      refine lv_aload_n hx hb dX12_where_37 rfl (lv_at hl 0 rfl) ?_
      refine lv_aload_n hx hb dX12_where_38 rfl (lv_at hl 0 rfl) ?_
      refine gx_getr (j := 207) S hK hw t_199 cl_13 11 (by decide) rfl mw_1425 rfl dX12_where_39 ?_
      refine lv_bipush (v := 7) hx hb dX12_where_42 (by decide) ?_
      refine lv_iload_n hx hb dX12_where_44 rfl (lv_at hl 1 rfl) ?_
      refine lv_imul hx hb dX12_where_45 ?_
      refine lv_iconst (v := 4) hx hb dX12_where_46 (by decide) ?_
      refine lv_iadd hx hb dX12_where_47 ?_
      obtain ⟨j_8, hj_8, hi_8, h⟩ := ck_some h
      refine gx_iald S hK hw t_207 j_8 hj_8 hi_8 dX12_where_48 ?_
      refine lv_i2l (v := (σ_7 207 j_8).toInt64) hx hb dX12_where_49 rfl ?_
      obtain ⟨u_9, σ_9, τ_9, q_9, h⟩ := bd_some h
      refine gx_cVv (As := [.long ((σ_7 207 j_8).toInt64)]) (rest := []) S hK gx_ok hw (c_X12_enters l (E := E) N σ_7 τ_6 ((σ_7 207 j_8).toInt64) q_9) cw_X12_122 t_199 cl_13 ⟨Nat.le_of_ble_eq_true rfl, Nat.le_of_ble_eq_true rfl⟩ rfl hl.1 rfl (Nat.le_of_ble_eq_true rfl) ⟨Nat.le_of_ble_eq_true rfl, Nat.le_of_ble_eq_true rfl⟩ dX12_where_50 (fun σ9 τ9 H locs hp hw => ?_)
      obtain ⟨rfl, rfl⟩ := hp
      refine lv_aload_n hx hb dX12_where_53 rfl (lv_at hl 0 rfl) ?_
      refine lv_aload_n hx hb dX12_where_54 rfl (lv_at hl 0 rfl) ?_
      refine gx_getr (j := 207) S hK hw t_199 cl_13 11 (by decide) rfl mw_1425 rfl dX12_where_55 ?_
      refine lv_bipush (v := 7) hx hb dX12_where_58 (by decide) ?_
      refine lv_iload_n hx hb dX12_where_60 rfl (lv_at hl 1 rfl) ?_
      refine lv_imul hx hb dX12_where_61 ?_
      refine lv_iconst (v := 1) hx hb dX12_where_62 (by decide) ?_
      refine lv_iadd hx hb dX12_where_63 ?_
      obtain ⟨j_10, hj_10, hi_10, h⟩ := ck_some h
      refine gx_iald S hK hw t_207 j_10 hj_10 hi_10 dX12_where_64 ?_
      refine lv_i2l (v := (σ_9 207 j_10).toInt64) hx hb dX12_where_65 rfl ?_
      obtain ⟨u_11, σ_11, τ_11, q_11, h⟩ := bd_some h
      refine gx_cVv (As := [.long ((σ_9 207 j_10).toInt64)]) (rest := []) S hK gx_ok hw (c_X12_enters l (E := E) N σ_9 τ_9 ((σ_9 207 j_10).toInt64) q_11) cw_X12_122 t_199 cl_13 ⟨Nat.le_of_ble_eq_true rfl, Nat.le_of_ble_eq_true rfl⟩ rfl hl.1 rfl (Nat.le_of_ble_eq_true rfl) ⟨Nat.le_of_ble_eq_true rfl, Nat.le_of_ble_eq_true rfl⟩ dX12_where_66 (fun σ9 τ9 H locs hp hw => ?_)
      obtain ⟨rfl, rfl⟩ := hp
      refine lv_aload_n hx hb dX12_where_69 rfl (lv_at hl 0 rfl) ?_
      refine lv_aload_n hx hb dX12_where_70 rfl (lv_at hl 0 rfl) ?_
      refine gx_getr (j := 207) S hK hw t_199 cl_13 11 (by decide) rfl mw_1425 rfl dX12_where_71 ?_
      refine lv_bipush (v := 7) hx hb dX12_where_74 (by decide) ?_
      refine lv_iload_n hx hb dX12_where_76 rfl (lv_at hl 1 rfl) ?_
      refine lv_imul hx hb dX12_where_77 ?_
      refine lv_iconst (v := 2) hx hb dX12_where_78 (by decide) ?_
      refine lv_iadd hx hb dX12_where_79 ?_
      obtain ⟨j_12, hj_12, hi_12, h⟩ := ck_some h
      refine gx_iald S hK hw t_207 j_12 hj_12 hi_12 dX12_where_80 ?_
      refine lv_i2l (v := (σ_11 207 j_12).toInt64) hx hb dX12_where_81 rfl ?_
      obtain ⟨u_13, σ_13, τ_13, q_13, h⟩ := bd_some h
      refine gx_cVv (As := [.long ((σ_11 207 j_12).toInt64)]) (rest := []) S hK gx_ok hw (c_X12_enters l (E := E) N σ_11 τ_11 ((σ_11 207 j_12).toInt64) q_13) cw_X12_122 t_199 cl_13 ⟨Nat.le_of_ble_eq_true rfl, Nat.le_of_ble_eq_true rfl⟩ rfl hl.1 rfl (Nat.le_of_ble_eq_true rfl) ⟨Nat.le_of_ble_eq_true rfl, Nat.le_of_ble_eq_true rfl⟩ dX12_where_82 (fun σ9 τ9 H locs hp hw => ?_)
      obtain ⟨rfl, rfl⟩ := hp
      refine lv_aload_n hx hb dX12_where_85 rfl (lv_at hl 0 rfl) ?_
      refine gx_getr (j := 207) S hK hw t_199 cl_13 11 (by decide) rfl mw_1425 rfl dX12_where_86 ?_
      refine lv_bipush (v := 7) hx hb dX12_where_89 (by decide) ?_
      refine lv_iload_n hx hb dX12_where_91 rfl (lv_at hl 1 rfl) ?_
      refine lv_imul hx hb dX12_where_92 ?_
      refine lv_iconst (v := 0) hx hb dX12_where_93 (by decide) ?_
      refine lv_iadd hx hb dX12_where_94 ?_
      obtain ⟨j_14, hj_14, hi_14, h⟩ := ck_some h
      refine gx_iald S hK hw t_207 j_14 hj_14 hi_14 dX12_where_95 ?_
      obtain ⟨rfl, rfl, rfl⟩ := sm_inj h
      exact gx_ri (post := gq_p (σ_13 207 j_14) σ_13 τ_13) (v := σ_13 207 j_14) S hr hlk hw rfl dX12_where_96 ⟨rfl, rfl, rfl⟩
    · rw [if_pos c_5] at h
      refine lv_iconst (v := (-1)) hx hb dX12_where_25 (by decide) ?_
      obtain ⟨rfl, rfl, rfl⟩ := sm_inj h
      exact gx_ri (post := gq_p (-1) σ_4 τ_4) (v := (-1)) S hr hlk hw rfl dX12_where_26 ⟨rfl, rfl, rfl⟩
set_option maxHeartbeats 4000000 in
set_option maxRecDepth 100000 in
theorem c_X12_where (l : Launch) {E : gE} (N : Nat) (σ : gI) (τ : gJ) (x1 : Int32) (x2 : Int32) {r : Int32} {σ1 : gI} {τ1 : gJ} (h : B_X12_where_0 N σ τ x1 x2 = some (r, σ1, τ1)) : gx_Mi l yX12_where cX12_where 3 (some .int) 7 gx_tb E σ τ [.ref (E.2.2 + 199), .int x1, .int x2] (gq_p r σ1 τ1) := by
  refine gx_bi (by decide +kernel) (Nat.le_of_ble_eq_true rfl) ?_
  intro P9 e9 s m9 below meth C9 S hr hlk hK hw ls hl
  have hl : lv_has ls 3 [(0, .ref (E.2.2 + 199)), (1, .int x1), (2, .int x2)] := hl
  exact b_X12_where_0 l S hr hlk hK N σ τ x1 x2 h hw hl
/-! X4_numberAt -/
def B_X4_numberAt_0 (N : Nat) (σ : gI) (τ : gJ) (x1 : Int32) : Option (Int64 × gI × gJ) := if x1 < 0 then (some (0, σ, τ)) else (if σ 156 1 ≤ x1 then (some (0, σ, τ)) else (if 3 ≤ x1 then (some (0, σ, τ)) else (ck x1 3 fun j_4 => some (τ 157 j_4, σ, τ))))
set_option maxHeartbeats 4000000 in
set_option maxRecDepth 100000 in
theorem b_X4_numberAt_0 (l : Launch) (S : CallFix P9 m9 C9 cX4_numberAt 2 s av.toArray gx_G RX4) (hr : meth.sig.returnType = (some .long)) (hlk : meth.locks = false) (hK : gx_K E s) (N : Nat) (σ : gI) (τ : gJ) (x1 : Int32) {r : Int64} {σ1 : gI} {τ1 : gJ} (h : B_X4_numberAt_0 N σ τ x1 = some (r, σ1, τ1)) {H : Heap} {locs : List Loc} {ls : Array Slot} (hw : gx_W gx_tb gx_tb.length E s σ τ H locs) (hl : lv_has ls 2 [(0, .ref (E.2.2 + 156)), (1, .int x1)]) : W P9 l e9 (gx_rm 0) s m9 av.toArray below meth C9 H locs 0 0 (gq_Ql below av s E r σ1 τ1) (F0 m9 0 ls []) := by
  have hx := S.1
  have hb := S.2.1
  unfold B_X4_numberAt_0 at h
  refine lv_iload_n hx hb dX4_numberAt_0 rfl (lv_at hl 1 rfl) ?_
  refine lv_if_lt (tgt := 26) hx hb dX4_numberAt_1 (by decide) (fun c_1 => ?_) (fun c_1 => ?_)
  · rw [if_pos c_1] at h
    refine lv_lconst (v := 0) hx hb dX4_numberAt_26 (by decide) ?_
    obtain ⟨rfl, rfl, rfl⟩ := sm_inj h
    exact gx_rl (post := gq_p 0 σ τ) (v := 0) S hr hlk hw dX4_numberAt_27 ⟨rfl, rfl, rfl⟩
  · rw [if_neg c_1] at h
    refine lv_iload_n hx hb dX4_numberAt_4 rfl (lv_at hl 1 rfl) ?_
    refine lv_aload_n hx hb dX4_numberAt_5 rfl (lv_at hl 0 rfl) ?_
    refine gx_get S hK hw t_156 cl_5 1 (by decide) rfl mw_357 rfl dX4_numberAt_6 ?_
    refine lv_icmp_ge (tgt := 26) hx hb dX4_numberAt_9 (by decide) (fun c_2 => ?_) (fun c_2 => ?_)
    · rw [if_pos c_2] at h
      refine lv_lconst (v := 0) hx hb dX4_numberAt_26 (by decide) ?_
      obtain ⟨rfl, rfl, rfl⟩ := sm_inj h
      exact gx_rl (post := gq_p 0 σ τ) (v := 0) S hr hlk hw dX4_numberAt_27 ⟨rfl, rfl, rfl⟩
    · rw [if_neg c_2] at h
      refine lv_iload_n hx hb dX4_numberAt_12 rfl (lv_at hl 1 rfl) ?_
      refine lv_iconst (v := 3) hx hb dX4_numberAt_13 (by decide) ?_
      refine lv_icmp_ge (tgt := 26) hx hb dX4_numberAt_14 (by decide) (fun c_3 => ?_) (fun c_3 => ?_)
      · rw [if_pos c_3] at h
        refine lv_lconst (v := 0) hx hb dX4_numberAt_26 (by decide) ?_
        obtain ⟨rfl, rfl, rfl⟩ := sm_inj h
        exact gx_rl (post := gq_p 0 σ τ) (v := 0) S hr hlk hw dX4_numberAt_27 ⟨rfl, rfl, rfl⟩
      · rw [if_neg c_3] at h
        refine lv_aload_n hx hb dX4_numberAt_17 rfl (lv_at hl 0 rfl) ?_
        refine gx_getr (j := 157) S hK hw t_156 cl_5 0 (by decide) rfl mw_356 rfl dX4_numberAt_18 ?_
        refine lv_iload_n hx hb dX4_numberAt_21 rfl (lv_at hl 1 rfl) ?_
        obtain ⟨j_4, hj_4, hi_4, h⟩ := ck_some h
        refine gx_lald S hK hw t_157 j_4 hj_4 hi_4 dX4_numberAt_22 ?_
        refine lv_goto (tgt := 27) hx hb dX4_numberAt_23 (by decide) ?_
        obtain ⟨rfl, rfl, rfl⟩ := sm_inj h
        exact gx_rl (post := gq_p (τ 157 j_4) σ τ) (v := τ 157 j_4) S hr hlk hw dX4_numberAt_27 ⟨rfl, rfl, rfl⟩
set_option maxHeartbeats 4000000 in
set_option maxRecDepth 100000 in
theorem c_X4_numberAt (l : Launch) {E : gE} (N : Nat) (σ : gI) (τ : gJ) (x1 : Int32) {r : Int64} {σ1 : gI} {τ1 : gJ} (h : B_X4_numberAt_0 N σ τ x1 = some (r, σ1, τ1)) : gx_Ml l yX4_numberAt cX4_numberAt 2 (some .long) 0 gx_tb E σ τ [.ref (E.2.2 + 156), .int x1] (gq_p r σ1 τ1) := by
  refine gx_bl (by decide +kernel) (Nat.le_of_ble_eq_true rfl) ?_
  intro P9 e9 s m9 below meth C9 S hr hlk hK hw ls hl
  have hl : lv_has ls 2 [(0, .ref (E.2.2 + 156)), (1, .int x1)] := hl
  exact b_X4_numberAt_0 l S hr hlk hK N σ τ x1 h hw hl
/-! X6_endedIn -/
def B_X6_endedIn_0 (N : Nat) (c : Nat) (σ : gI) (τ : gJ) (x1 : Int32) : Option (Int32 × gI × gJ) := if x1 < 0 then (some ((-1), σ, τ)) else (if 6 ≤ x1 then (some ((-1), σ, τ)) else (ck x1 6 fun j_3 => some (σ (c + 6) j_3, σ, τ)))
set_option maxHeartbeats 4000000 in
set_option maxRecDepth 100000 in
theorem b_X6_endedIn_0 (l : Launch) (S : CallFix P9 m9 C9 cX6_endedIn 2 s av.toArray gx_G RX6) (hr : meth.sig.returnType = (some .int)) (hlk : meth.locks = false) (hK : gx_K E s) (N : Nat) (c : Nat) (tc : gx_isS c) (σ : gI) (τ : gJ) (x1 : Int32) {r : Int32} {σ1 : gI} {τ1 : gJ} (h : B_X6_endedIn_0 N c σ τ x1 = some (r, σ1, τ1)) {H : Heap} {locs : List Loc} {ls : Array Slot} (hw : gx_W gx_tb gx_tb.length E s σ τ H locs) (hl : lv_has ls 2 [(0, .ref (E.2.2 + c)), (1, .int x1)]) : W P9 l e9 (gx_rm 0) s m9 av.toArray below meth C9 H locs 0 0 (gq_Qi below av s E r σ1 τ1) (F0 m9 0 ls []) := by
  have hx := S.1
  have hb := S.2.1
  unfold B_X6_endedIn_0 at h
  refine lv_iload_n hx hb dX6_endedIn_0 rfl (lv_at hl 1 rfl) ?_
  refine lv_if_lt (tgt := 19) hx hb dX6_endedIn_1 (by decide) (fun c_1 => ?_) (fun c_1 => ?_)
  · rw [if_pos c_1] at h
    refine lv_iconst (v := (-1)) hx hb dX6_endedIn_19 (by decide) ?_
    obtain ⟨rfl, rfl, rfl⟩ := sm_inj h
    exact gx_ri (post := gq_p (-1) σ τ) (v := (-1)) S hr hlk hw rfl dX6_endedIn_20 ⟨rfl, rfl, rfl⟩
  · rw [if_neg c_1] at h
    refine lv_iload_n hx hb dX6_endedIn_4 rfl (lv_at hl 1 rfl) ?_
    refine lv_bipush (v := 6) hx hb dX6_endedIn_5 (by decide) ?_
    refine lv_icmp_ge (tgt := 19) hx hb dX6_endedIn_7 (by decide) (fun c_2 => ?_) (fun c_2 => ?_)
    · rw [if_pos c_2] at h
      refine lv_iconst (v := (-1)) hx hb dX6_endedIn_19 (by decide) ?_
      obtain ⟨rfl, rfl, rfl⟩ := sm_inj h
      exact gx_ri (post := gq_p (-1) σ τ) (v := (-1)) S hr hlk hw rfl dX6_endedIn_20 ⟨rfl, rfl, rfl⟩
    · rw [if_neg c_2] at h
      refine lv_aload_n hx hb dX6_endedIn_10 rfl (lv_at hl 0 rfl) ?_
      refine gx_getr (j := c + 6) S hK hw tc.1 cl_7 5 (by decide) rfl mw_269 rfl dX6_endedIn_11 ?_
      refine lv_iload_n hx hb dX6_endedIn_14 rfl (lv_at hl 1 rfl) ?_
      obtain ⟨j_3, hj_3, hi_3, h⟩ := ck_some h
      refine gx_iald S hK hw (iS_6 tc) j_3 hj_3 hi_3 dX6_endedIn_15 ?_
      refine lv_goto (tgt := 20) hx hb dX6_endedIn_16 (by decide) ?_
      obtain ⟨rfl, rfl, rfl⟩ := sm_inj h
      exact gx_ri (post := gq_p (σ (c + 6) j_3) σ τ) (v := σ (c + 6) j_3) S hr hlk hw rfl dX6_endedIn_20 ⟨rfl, rfl, rfl⟩
set_option maxHeartbeats 4000000 in
set_option maxRecDepth 100000 in
theorem c_X6_endedIn (l : Launch) {E : gE} (N : Nat) (c : Nat) (tc : gx_isS c) (σ : gI) (τ : gJ) (x1 : Int32) {r : Int32} {σ1 : gI} {τ1 : gJ} (h : B_X6_endedIn_0 N c σ τ x1 = some (r, σ1, τ1)) : gx_Mi l yX6_endedIn cX6_endedIn 2 (some .int) 0 gx_tb E σ τ [.ref (E.2.2 + c), .int x1] (gq_p r σ1 τ1) := by
  refine gx_bi (by decide +kernel) (Nat.le_of_ble_eq_true rfl) ?_
  intro P9 e9 s m9 below meth C9 S hr hlk hK hw ls hl
  have hl : lv_has ls 2 [(0, .ref (E.2.2 + c)), (1, .int x1)] := hl
  exact b_X6_endedIn_0 l S hr hlk hK N c tc σ τ x1 h hw hl
/-! X6_startsIn -/
def B_X6_startsIn_0 (N : Nat) (c : Nat) (σ : gI) (τ : gJ) (x1 : Int32) : Option (Int32 × gI × gJ) := if x1 < 0 then (some (0, σ, τ)) else (if 6 ≤ x1 then (some (0, σ, τ)) else (ck x1 6 fun j_3 => some (imax 0 ((σ (c + 5) j_3) - (σ c 8)), σ, τ)))
set_option maxHeartbeats 4000000 in
set_option maxRecDepth 100000 in
theorem b_X6_startsIn_0 (l : Launch) (S : CallFix P9 m9 C9 cX6_startsIn 2 s av.toArray gx_G RX6) (hr : meth.sig.returnType = (some .int)) (hlk : meth.locks = false) (hK : gx_K E s) (N : Nat) (c : Nat) (tc : gx_isS c) (σ : gI) (τ : gJ) (x1 : Int32) {r : Int32} {σ1 : gI} {τ1 : gJ} (h : B_X6_startsIn_0 N c σ τ x1 = some (r, σ1, τ1)) {H : Heap} {locs : List Loc} {ls : Array Slot} (hw : gx_W gx_tb gx_tb.length E s σ τ H locs) (hl : lv_has ls 2 [(0, .ref (E.2.2 + c)), (1, .int x1)]) : W P9 l e9 (gx_rm 1) s m9 av.toArray below meth C9 H locs 0 0 (gq_Qi below av s E r σ1 τ1) (F0 m9 0 ls []) := by
  have hx := S.1
  have hb := S.2.1
  unfold B_X6_startsIn_0 at h
  refine lv_iload_n hx hb dX6_startsIn_0 rfl (lv_at hl 1 rfl) ?_
  refine lv_if_lt (tgt := 28) hx hb dX6_startsIn_1 (by decide) (fun c_1 => ?_) (fun c_1 => ?_)
  · rw [if_pos c_1] at h
    refine lv_iconst (v := 0) hx hb dX6_startsIn_28 (by decide) ?_
    obtain ⟨rfl, rfl, rfl⟩ := sm_inj h
    exact gx_ri (post := gq_p 0 σ τ) (v := 0) S hr hlk hw rfl dX6_startsIn_29 ⟨rfl, rfl, rfl⟩
  · rw [if_neg c_1] at h
    refine lv_iload_n hx hb dX6_startsIn_4 rfl (lv_at hl 1 rfl) ?_
    refine lv_bipush (v := 6) hx hb dX6_startsIn_5 (by decide) ?_
    refine lv_icmp_ge (tgt := 28) hx hb dX6_startsIn_7 (by decide) (fun c_2 => ?_) (fun c_2 => ?_)
    · rw [if_pos c_2] at h
      refine lv_iconst (v := 0) hx hb dX6_startsIn_28 (by decide) ?_
      obtain ⟨rfl, rfl, rfl⟩ := sm_inj h
      exact gx_ri (post := gq_p 0 σ τ) (v := 0) S hr hlk hw rfl dX6_startsIn_29 ⟨rfl, rfl, rfl⟩
    · rw [if_neg c_2] at h
      refine lv_iconst (v := 0) hx hb dX6_startsIn_10 (by decide) ?_
      refine lv_aload_n hx hb dX6_startsIn_11 rfl (lv_at hl 0 rfl) ?_
      refine gx_getr (j := c + 5) S hK hw tc.1 cl_7 4 (by decide) rfl mw_268 rfl dX6_startsIn_12 ?_
      refine lv_iload_n hx hb dX6_startsIn_15 rfl (lv_at hl 1 rfl) ?_
      obtain ⟨j_3, hj_3, hi_3, h⟩ := ck_some h
      refine gx_iald S hK hw (iS_5 tc) j_3 hj_3 hi_3 dX6_startsIn_16 ?_
      refine lv_aload_n hx hb dX6_startsIn_17 rfl (lv_at hl 0 rfl) ?_
      refine gx_get S hK hw tc.1 cl_7 8 (by decide) rfl mw_277 rfl dX6_startsIn_18 ?_
      refine lv_isub hx hb dX6_startsIn_21 ?_
      refine gx_max (w := imax 0 ((σ (c + 5) j_3) - (σ c 8))) S hl.1 mw_1390 mw_577 mw_102 mw_578 ⟨Nat.le_of_ble_eq_true rfl, Nat.le_of_ble_eq_true rfl⟩ ⟨Nat.le_of_ble_eq_true rfl, Nat.le_of_ble_eq_true rfl⟩ dX6_startsIn_22 rfl ?_
      refine lv_goto (tgt := 29) hx hb dX6_startsIn_25 (by decide) ?_
      obtain ⟨rfl, rfl, rfl⟩ := sm_inj h
      exact gx_ri (post := gq_p (imax 0 ((σ (c + 5) j_3) - (σ c 8))) σ τ) (v := imax 0 ((σ (c + 5) j_3) - (σ c 8))) S hr hlk hw rfl dX6_startsIn_29 ⟨rfl, rfl, rfl⟩
set_option maxHeartbeats 4000000 in
set_option maxRecDepth 100000 in
theorem c_X6_startsIn (l : Launch) {E : gE} (N : Nat) (c : Nat) (tc : gx_isS c) (σ : gI) (τ : gJ) (x1 : Int32) {r : Int32} {σ1 : gI} {τ1 : gJ} (h : B_X6_startsIn_0 N c σ τ x1 = some (r, σ1, τ1)) : gx_Mi l yX6_startsIn cX6_startsIn 2 (some .int) 1 gx_tb E σ τ [.ref (E.2.2 + c), .int x1] (gq_p r σ1 τ1) := by
  refine gx_bi (by decide +kernel) (Nat.le_of_ble_eq_true rfl) ?_
  intro P9 e9 s m9 below meth C9 S hr hlk hK hw ls hl
  have hl : lv_has ls 2 [(0, .ref (E.2.2 + c)), (1, .int x1)] := hl
  exact b_X6_startsIn_0 l S hr hlk hK N c tc σ τ x1 h hw hl
end F9
