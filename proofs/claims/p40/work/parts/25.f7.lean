section F7
variable {a9 v9 : Nat} {w9 : Value} {P9 : Program} {e9 : Env} {s : State} {m9 : MethodId} {below : List Frame} {meth : Method} {C9 : Code} {E : gE} {av : List Value}
/-! X12_duel -/
def B_X12_duel_170 (N : Nat) (σ : gI) (τ : gJ) (x7 : Int32) (x8 : Int32) : Option (Int32 × gI × gJ) := nm (up2 σ 199 1 0) fun σ_1 => bd (B_X12_enters_0 N σ_1 τ x8.toInt64) fun _ σ_2 τ_2 => some (x7, σ_2, τ_2)
def C_X12_duel_131 (N : Nat) (rec_131 : gI → gJ → Int32 → Int32 → Int32 → Int32 → Option (Int32 × gI × gJ)) (σ : gI) (τ : gJ) (x5 : Int32) (x6 : Int32) (x7 : Int32) (x8 : Int32) : Option (Int32 × gI × gJ) := ck x8 12 fun j_1 => if σ 201 j_1 = 1 then (bd ((R_X12_plays N 5) σ τ (x6 ^^^ (1 <<< (x8 &&& 31))) (x5 - 1) x5) fun r_4 σ_4 τ_4 => if r_4 = x7 then (B_X12_duel_170 N σ_4 τ_4 x7 x8) else (nm (x8 + 1) fun v_6 => rec_131 σ_4 τ_4 x5 x6 x7 v_6)) else (nm (x8 + 1) fun v_3 => rec_131 σ τ x5 x6 x7 v_3)
def H_X12_duel_131 (N : Nat) : Nat → gI → gJ → Int32 → Int32 → Int32 → Int32 → Option (Int32 × gI × gJ) := itn (fun rec_131 => C_X12_duel_131 N rec_131) (fun _ _ _ _ _ _ => none)
def C_X12_duel_60 (N : Nat) (rec_60 : gI → gJ → Int32 → Int32 → Option (Int32 × gI × gJ)) (σ : gI) (τ : gJ) (x5 : Int32) (x6 : Int32) : Option (Int32 × gI × gJ) := if 4096 ≤ x6 then (nm (σ 206 42) fun v_2 => bd ((R_X12_plays N 5) σ τ v_2 x5 x5) fun r_3 σ_3 τ_3 => if x5 ≤ 0 then (B_X12_duel_170 N σ_3 τ_3 r_3 (-1)) else (bd ((R_X12_plays N 5) σ_3 τ_3 v_2 (x5 - 1) x5) fun r_5 σ_5 τ_5 => if r_5 = r_3 then (B_X12_duel_170 N σ_5 τ_5 r_3 (-1)) else (H_X12_duel_131 N N σ_5 τ_5 x5 v_2 r_3 0))) else (ck x6 4096 fun j_7 => nm (up2 σ 225 j_7 (-1)) fun σ_8 => nm (x6 + 1) fun v_9 => rec_60 σ_8 τ x5 v_9)
def H_X12_duel_60 (N : Nat) : Nat → gI → gJ → Int32 → Int32 → Option (Int32 × gI × gJ) := itn (fun rec_60 => C_X12_duel_60 N rec_60) (fun _ _ _ _ => none)
def B_X12_duel_0 (N : Nat) (σ : gI) (τ : gJ) (x1 : Int32) (x2 : Int32) (x3 : Int32) (x4 : Int32) (x5 : Int32) : Option (Int32 × gI × gJ) := nm (up2 σ 199 0 0) fun σ_1 => bd (B_X12_canSail_0 N σ_1 τ x1 x2 x3 x4) fun r_2 σ_2 τ_2 => if r_2 = 0 then (some ((-1), σ_2, τ_2)) else (bd (B_X12_in_0 N σ_2 τ_2 x5.toInt64 0 3) fun r_4 σ_4 τ_4 => if r_4 = 0 then (some ((-1), σ_4, τ_4)) else (bd (B_X12_thinksNow_0 N σ_4 τ_4) fun _ σ_6 τ_6 => nm (up2 σ_6 199 48 x1) fun σ_7 => nm (up2 σ_7 199 49 x2) fun σ_8 => nm (up2 σ_8 199 50 x3) fun σ_9 => nm (up2 σ_9 199 51 x4) fun σ_10 => H_X12_duel_60 N N σ_10 τ_6 x5 0))
set_option maxHeartbeats 4000000 in
set_option maxRecDepth 100000 in
theorem b_X12_duel_170 (l : Launch) (S : CallFix P9 m9 C9 cX12_duel 9 s av.toArray gx_G RX12) (hr : meth.sig.returnType = (some .int)) (hlk : meth.locks = false) (hK : gx_K E s) (N : Nat) (σ : gI) (τ : gJ) (x7 : Int32) (x8 : Int32) {r : Int32} {σ1 : gI} {τ1 : gJ} (h : B_X12_duel_170 N σ τ x7 x8 = some (r, σ1, τ1)) {H : Heap} {locs : List Loc} {ls : Array Slot} (hw : gx_W gx_tb gx_tb.length E s σ τ H locs) (hl : lv_has ls 9 [(0, .ref (E.2.2 + 199)), (7, .int x7), (8, .int x8)]) : W P9 l e9 (gx_rm 51) s m9 av.toArray below meth C9 H locs 0 0 (gq_Qi below av s E r σ1 τ1) (F0 m9 170 ls []) := by
  have hx := S.1
  have hb := S.2.1
  unfold B_X12_duel_170 at h
  refine lv_aload_n hx hb dX12_duel_170 rfl (lv_at hl 0 rfl) ?_
  refine lv_iconst (v := 0) hx hb dX12_duel_171 (by decide) ?_
  refine gx_put S hK gx_ok hw t_199 cl_13 1 (by decide) rfl mw_1415 rfl rfl (ty := .int) (v := 0) (by decide +kernel) rfl rfl dX12_duel_172 (fun H locs hw => ?_)
  obtain ⟨σ_1, e_1, h⟩ := nm_some h
  rw [← e_1] at hw
  refine lv_aload_n hx hb dX12_duel_175 rfl (lv_at hl 0 rfl) ?_
  refine lv_iload hx hb dX12_duel_176 (lv_at hl 2 rfl) ?_
  refine lv_i2l (v := x8.toInt64) hx hb dX12_duel_178 rfl ?_
  obtain ⟨u_2, σ_2, τ_2, q_2, h⟩ := bd_some h
  refine gx_cVv (As := [.long x8.toInt64]) (rest := []) S hK gx_ok hw (c_X12_enters l (E := E) N σ_1 τ x8.toInt64 q_2) cw_X12_122 t_199 cl_13 ⟨Nat.le_of_ble_eq_true rfl, Nat.le_of_ble_eq_true rfl⟩ rfl hl.1 rfl (Nat.le_of_ble_eq_true rfl) ⟨Nat.le_of_ble_eq_true rfl, Nat.le_of_ble_eq_true rfl⟩ dX12_duel_179 (fun σ9 τ9 H locs hp hw => ?_)
  obtain ⟨rfl, rfl⟩ := hp
  refine lv_iload hx hb dX12_duel_182 (lv_at hl 1 rfl) ?_
  obtain ⟨rfl, rfl, rfl⟩ := sm_inj h
  exact gx_ri (post := gq_p x7 σ_2 τ_2) (v := x7) S hr hlk hw rfl dX12_duel_184 ⟨rfl, rfl, rfl⟩
set_option maxHeartbeats 4000000 in
set_option maxRecDepth 100000 in
theorem k_X12_duel_131 (l : Launch) (S : CallFix P9 m9 C9 cX12_duel 9 s av.toArray gx_G RX12) (hr : meth.sig.returnType = (some .int)) (hlk : meth.locks = false) (hK : gx_K E s) (N : Nat) (rec_131 : gI → gJ → Int32 → Int32 → Int32 → Int32 → Option (Int32 × gI × gJ)) (hrec_131 : ∀ (σ : gI) (τ : gJ) (x5 : Int32) (x6 : Int32) (x7 : Int32) (x8 : Int32) (r : Int32) (σ1 : gI) (τ1 : gJ) (H : Heap) (locs : List Loc) (ls : Array Slot), rec_131 σ τ x5 x6 x7 x8 = some (r, σ1, τ1) → gx_W gx_tb gx_tb.length E s σ τ H locs → lv_has ls 9 [(0, .ref (E.2.2 + 199)), (5, .int x5), (6, .int x6), (7, .int x7), (8, .int x8)] → W P9 l e9 (gx_rm 51) s m9 av.toArray below meth C9 H locs 0 0 (gq_Qi below av s E r σ1 τ1) (F0 m9 131 ls [])) (σ : gI) (τ : gJ) (x5 : Int32) (x6 : Int32) (x7 : Int32) (x8 : Int32) {r : Int32} {σ1 : gI} {τ1 : gJ} (h : C_X12_duel_131 N rec_131 σ τ x5 x6 x7 x8 = some (r, σ1, τ1)) {H : Heap} {locs : List Loc} {ls : Array Slot} (hw : gx_W gx_tb gx_tb.length E s σ τ H locs) (hl : lv_has ls 9 [(0, .ref (E.2.2 + 199)), (5, .int x5), (6, .int x6), (7, .int x7), (8, .int x8)]) : W P9 l e9 (gx_rm 51) s m9 av.toArray below meth C9 H locs 0 0 (gq_Qi below av s E r σ1 τ1) (F0 m9 131 ls []) := by
  have hx := S.1
  have hb := S.2.1
  unfold C_X12_duel_131 at h
  refine lv_aload_n hx hb dX12_duel_131 rfl (lv_at hl 0 rfl) ?_
  refine gx_getr (j := 201) S hK hw t_199 cl_13 5 (by decide) rfl mw_1419 rfl dX12_duel_132 ?_
  refine lv_iload hx hb dX12_duel_135 (lv_at hl 4 rfl) ?_
  obtain ⟨j_1, hj_1, hi_1, h⟩ := ck_some h
  refine gx_iald S hK hw t_201 j_1 hj_1 hi_1 dX12_duel_137 ?_
  refine lv_iconst (v := 1) hx hb dX12_duel_138 (by decide) ?_
  refine lv_icmp_ne (tgt := 164) hx hb dX12_duel_139 (by decide) (fun c_2 => ?_) (fun c_2 => ?_)
  · rw [if_neg c_2] at h
    refine lv_iinc (v := x8 + 1) (lv' := [(8, .int (x8 + 1)), (0, .ref (E.2.2 + 199)), (5, .int x5), (6, .int x6), (7, .int x7)]) hx hb dX12_duel_164 hl (k := 4) rfl rfl (by decide) rfl (fun ls hl => ?_)
    obtain ⟨v_3, e_3, h⟩ := nm_some h
    have hl : lv_has ls 9 [(8, .int v_3), (0, .ref (E.2.2 + 199)), (5, .int x5), (6, .int x6), (7, .int x7)] := by rw [e_3]; exact hl
    refine lv_goto (tgt := 131) hx hb dX12_duel_167 (by decide) ?_
    exact hrec_131 σ τ x5 x6 x7 v_3 _ _ _ _ _ _ h hw (lv_sub hl [1, 2, 3, 4, 0] rfl)
  · rw [if_pos c_2] at h
    refine lv_aload_n hx hb dX12_duel_142 rfl (lv_at hl 0 rfl) ?_
    refine lv_iload hx hb dX12_duel_143 (lv_at hl 2 rfl) ?_
    refine lv_iconst (v := 1) hx hb dX12_duel_145 (by decide) ?_
    refine lv_iload hx hb dX12_duel_146 (lv_at hl 4 rfl) ?_
    refine lv_ishl hx hb dX12_duel_148 ?_
    refine lv_ixor hx hb dX12_duel_149 ?_
    refine lv_iload hx hb dX12_duel_150 (lv_at hl 1 rfl) ?_
    refine lv_iconst (v := 1) hx hb dX12_duel_152 (by decide) ?_
    refine lv_isub hx hb dX12_duel_153 ?_
    refine lv_iload hx hb dX12_duel_154 (lv_at hl 1 rfl) ?_
    obtain ⟨r_4, σ_4, τ_4, q_4, h⟩ := bd_some h
    refine gx_cVi (As := [.int (x6 ^^^ (1 <<< (x8 &&& 31))), .int (x5 - 1), .int x5]) (rest := []) S hK gx_ok hw ((c_X12_plays l (E := E) N 5) σ τ (x6 ^^^ (1 <<< (x8 &&& 31))) (x5 - 1) x5 _ _ _ q_4) cw_X12_440 t_199 cl_13 ⟨Nat.le_of_ble_eq_true rfl, Nat.le_of_ble_eq_true rfl⟩ rfl hl.1 rfl (Nat.le_of_ble_eq_true rfl) ⟨Nat.le_of_ble_eq_true rfl, Nat.le_of_ble_eq_true rfl⟩ dX12_duel_156 (fun r9 σ9 τ9 H locs hp hw => ?_)
    obtain ⟨rfl, rfl, rfl⟩ := hp
    refine lv_iload hx hb dX12_duel_159 (lv_at hl 3 rfl) ?_
    refine lv_icmp_eq (tgt := 170) hx hb dX12_duel_161 (by decide) (fun c_5 => ?_) (fun c_5 => ?_)
    · rw [if_pos c_5] at h
      exact b_X12_duel_170 l S hr hlk hK N σ_4 τ_4 x7 x8 h hw (lv_sub hl [0, 3, 4] rfl)
    · rw [if_neg c_5] at h
      refine lv_iinc (v := x8 + 1) (lv' := [(8, .int (x8 + 1)), (0, .ref (E.2.2 + 199)), (5, .int x5), (6, .int x6), (7, .int x7)]) hx hb dX12_duel_164 hl (k := 4) rfl rfl (by decide) rfl (fun ls hl => ?_)
      obtain ⟨v_6, e_6, h⟩ := nm_some h
      have hl : lv_has ls 9 [(8, .int v_6), (0, .ref (E.2.2 + 199)), (5, .int x5), (6, .int x6), (7, .int x7)] := by rw [e_6]; exact hl
      refine lv_goto (tgt := 131) hx hb dX12_duel_167 (by decide) ?_
      exact hrec_131 σ_4 τ_4 x5 x6 x7 v_6 _ _ _ _ _ _ h hw (lv_sub hl [1, 2, 3, 4, 0] rfl)
set_option maxHeartbeats 4000000 in
set_option maxRecDepth 100000 in
theorem h_X12_duel_131 (l : Launch) (S : CallFix P9 m9 C9 cX12_duel 9 s av.toArray gx_G RX12) (hr : meth.sig.returnType = (some .int)) (hlk : meth.locks = false) (hK : gx_K E s) (N : Nat) : ∀ (n : Nat) (σ : gI) (τ : gJ) (x5 : Int32) (x6 : Int32) (x7 : Int32) (x8 : Int32) (r : Int32) (σ1 : gI) (τ1 : gJ), H_X12_duel_131 N n σ τ x5 x6 x7 x8 = some (r, σ1, τ1) → ∀ (H : Heap) (locs : List Loc) (ls : Array Slot), gx_W gx_tb gx_tb.length E s σ τ H locs → lv_has ls 9 [(0, .ref (E.2.2 + 199)), (5, .int x5), (6, .int x6), (7, .int x7), (8, .int x8)] → W P9 l e9 (gx_rm 51) s m9 av.toArray below meth C9 H locs 0 0 (gq_Qi below av s E r σ1 τ1) (F0 m9 131 ls []) := by
  intro n
  induction n with
  | zero => intro σ τ x5 x6 x7 x8 r σ1 τ1 h; cases h
  | succ n ih =>
    intro σ τ x5 x6 x7 x8 r σ1 τ1 h H locs ls hw hl
    exact k_X12_duel_131 l S hr hlk hK N (H_X12_duel_131 N n) (fun σ τ x5 x6 x7 x8 r σ1 τ1 H locs ls h hw hl => ih σ τ x5 x6 x7 x8 r σ1 τ1 h H locs ls hw hl) σ τ x5 x6 x7 x8 h hw hl
set_option maxHeartbeats 4000000 in
set_option maxRecDepth 100000 in
theorem k_X12_duel_60 (l : Launch) (S : CallFix P9 m9 C9 cX12_duel 9 s av.toArray gx_G RX12) (hr : meth.sig.returnType = (some .int)) (hlk : meth.locks = false) (hK : gx_K E s) (N : Nat) (rec_60 : gI → gJ → Int32 → Int32 → Option (Int32 × gI × gJ)) (hrec_60 : ∀ (σ : gI) (τ : gJ) (x5 : Int32) (x6 : Int32) (r : Int32) (σ1 : gI) (τ1 : gJ) (H : Heap) (locs : List Loc) (ls : Array Slot), rec_60 σ τ x5 x6 = some (r, σ1, τ1) → gx_W gx_tb gx_tb.length E s σ τ H locs → lv_has ls 9 [(0, .ref (E.2.2 + 199)), (5, .int x5), (6, .int x6)] → W P9 l e9 (gx_rm 51) s m9 av.toArray below meth C9 H locs 0 0 (gq_Qi below av s E r σ1 τ1) (F0 m9 60 ls [])) (σ : gI) (τ : gJ) (x5 : Int32) (x6 : Int32) {r : Int32} {σ1 : gI} {τ1 : gJ} (h : C_X12_duel_60 N rec_60 σ τ x5 x6 = some (r, σ1, τ1)) {H : Heap} {locs : List Loc} {ls : Array Slot} (hw : gx_W gx_tb gx_tb.length E s σ τ H locs) (hl : lv_has ls 9 [(0, .ref (E.2.2 + 199)), (5, .int x5), (6, .int x6)]) : W P9 l e9 (gx_rm 51) s m9 av.toArray below meth C9 H locs 0 0 (gq_Qi below av s E r σ1 τ1) (F0 m9 60 ls []) := by
  have hx := S.1
  have hb := S.2.1
  unfold C_X12_duel_60 at h
  refine lv_iload hx hb dX12_duel_60 (lv_at hl 2 rfl) ?_
  refine lv_sipush (v := 4096) hx hb dX12_duel_62 (by decide) ?_
  refine lv_icmp_ge (tgt := 82) hx hb dX12_duel_65 (by decide) (fun c_1 => ?_) (fun c_1 => ?_)
  · rw [if_pos c_1] at h
    refine lv_aload_n hx hb dX12_duel_82 rfl (lv_at hl 0 rfl) ?_
    refine gx_getr (j := 206) S hK hw t_199 cl_13 10 (by decide) rfl mw_1424 rfl dX12_duel_83 ?_
    refine lv_bipush (v := 42) hx hb dX12_duel_86 (by decide) ?_
    refine gx_iald S hK hw t_206 42 rfl (gx_in rfl (by decide) (by decide)) dX12_duel_88 ?_
    refine lv_istore (lv' := [(6, .int (σ 206 42)), (0, .ref (E.2.2 + 199)), (5, .int x5)]) hx hb dX12_duel_89 hl (by decide) rfl (fun ls hl => ?_)
    obtain ⟨v_2, e_2, h⟩ := nm_some h
    have hl : lv_has ls 9 [(6, .int v_2), (0, .ref (E.2.2 + 199)), (5, .int x5)] := by rw [e_2]; exact hl
    refine lv_aload_n hx hb dX12_duel_91 rfl (lv_at hl 1 rfl) ?_
    refine lv_iload hx hb dX12_duel_92 (lv_at hl 0 rfl) ?_
    refine lv_iload hx hb dX12_duel_94 (lv_at hl 2 rfl) ?_
    refine lv_iload hx hb dX12_duel_96 (lv_at hl 2 rfl) ?_
    obtain ⟨r_3, σ_3, τ_3, q_3, h⟩ := bd_some h
    refine gx_cVi (As := [.int v_2, .int x5, .int x5]) (rest := []) S hK gx_ok hw ((c_X12_plays l (E := E) N 5) σ τ v_2 x5 x5 _ _ _ q_3) cw_X12_440 t_199 cl_13 ⟨Nat.le_of_ble_eq_true rfl, Nat.le_of_ble_eq_true rfl⟩ rfl hl.1 rfl (Nat.le_of_ble_eq_true rfl) ⟨Nat.le_of_ble_eq_true rfl, Nat.le_of_ble_eq_true rfl⟩ dX12_duel_98 (fun r9 σ9 τ9 H locs hp hw => ?_)
    obtain ⟨rfl, rfl, rfl⟩ := hp
    refine lv_istore (lv' := [(7, .int r_3), (6, .int v_2), (0, .ref (E.2.2 + 199)), (5, .int x5)]) hx hb dX12_duel_101 hl (by decide) rfl (fun ls hl => ?_)
    refine lv_iconst (v := (-1)) hx hb dX12_duel_103 (by decide) ?_
    refine lv_istore (lv' := [(8, .int (-1)), (7, .int r_3), (6, .int v_2), (0, .ref (E.2.2 + 199)), (5, .int x5)]) hx hb dX12_duel_104 hl (by decide) rfl (fun ls hl => ?_)
    refine lv_iload hx hb dX12_duel_106 (lv_at hl 4 rfl) ?_
    refine lv_if_le (tgt := 170) hx hb dX12_duel_108 (by decide) (fun c_4 => ?_) (fun c_4 => ?_)
    · rw [if_pos c_4] at h
      exact b_X12_duel_170 l S hr hlk hK N σ_3 τ_3 r_3 (-1) h hw (lv_sub hl [3, 1, 0] rfl)
    · rw [if_neg c_4] at h
      refine lv_aload_n hx hb dX12_duel_111 rfl (lv_at hl 3 rfl) ?_
      refine lv_iload hx hb dX12_duel_112 (lv_at hl 2 rfl) ?_
      refine lv_iload hx hb dX12_duel_114 (lv_at hl 4 rfl) ?_
      refine lv_iconst (v := 1) hx hb dX12_duel_116 (by decide) ?_
      refine lv_isub hx hb dX12_duel_117 ?_
      refine lv_iload hx hb dX12_duel_118 (lv_at hl 4 rfl) ?_
      obtain ⟨r_5, σ_5, τ_5, q_5, h⟩ := bd_some h
      refine gx_cVi (As := [.int v_2, .int (x5 - 1), .int x5]) (rest := []) S hK gx_ok hw ((c_X12_plays l (E := E) N 5) σ_3 τ_3 v_2 (x5 - 1) x5 _ _ _ q_5) cw_X12_440 t_199 cl_13 ⟨Nat.le_of_ble_eq_true rfl, Nat.le_of_ble_eq_true rfl⟩ rfl hl.1 rfl (Nat.le_of_ble_eq_true rfl) ⟨Nat.le_of_ble_eq_true rfl, Nat.le_of_ble_eq_true rfl⟩ dX12_duel_120 (fun r9 σ9 τ9 H locs hp hw => ?_)
      obtain ⟨rfl, rfl, rfl⟩ := hp
      refine lv_iload hx hb dX12_duel_123 (lv_at hl 1 rfl) ?_
      refine lv_icmp_eq (tgt := 170) hx hb dX12_duel_125 (by decide) (fun c_6 => ?_) (fun c_6 => ?_)
      · rw [if_pos c_6] at h
        exact b_X12_duel_170 l S hr hlk hK N σ_5 τ_5 r_3 (-1) h hw (lv_sub hl [3, 1, 0] rfl)
      · rw [if_neg c_6] at h
        refine lv_iconst (v := 0) hx hb dX12_duel_128 (by decide) ?_
        refine lv_istore (lv' := [(8, .int 0), (7, .int r_3), (6, .int v_2), (0, .ref (E.2.2 + 199)), (5, .int x5)]) hx hb dX12_duel_129 hl (by decide) rfl (fun ls hl => ?_)
        exact h_X12_duel_131 l S hr hlk hK N N σ_5 τ_5 x5 v_2 r_3 0 _ _ _ h _ _ _ hw (lv_sub hl [3, 4, 2, 1, 0] rfl)
  · rw [if_neg c_1] at h
    refine lv_aload_n hx hb dX12_duel_68 rfl (lv_at hl 0 rfl) ?_
    refine gx_getr (j := 225) S hK hw t_199 cl_13 47 (by decide) rfl mw_1461 rfl dX12_duel_69 ?_
    refine lv_iload hx hb dX12_duel_72 (lv_at hl 2 rfl) ?_
    refine lv_iconst (v := (-1)) hx hb dX12_duel_74 (by decide) ?_
    obtain ⟨j_7, hj_7, hi_7, h⟩ := ck_some h
    refine gx_iast S hK gx_ok hw t_225 j_7 hj_7 hi_7 dX12_duel_75 (fun H locs hw => ?_)
    obtain ⟨σ_8, e_8, h⟩ := nm_some h
    rw [← e_8] at hw
    refine lv_iinc (v := x6 + 1) (lv' := [(6, .int (x6 + 1)), (0, .ref (E.2.2 + 199)), (5, .int x5)]) hx hb dX12_duel_76 hl (k := 2) rfl rfl (by decide) rfl (fun ls hl => ?_)
    obtain ⟨v_9, e_9, h⟩ := nm_some h
    have hl : lv_has ls 9 [(6, .int v_9), (0, .ref (E.2.2 + 199)), (5, .int x5)] := by rw [e_9]; exact hl
    refine lv_goto (tgt := 60) hx hb dX12_duel_79 (by decide) ?_
    exact hrec_60 σ_8 τ x5 v_9 _ _ _ _ _ _ h hw (lv_sub hl [1, 2, 0] rfl)
set_option maxHeartbeats 4000000 in
set_option maxRecDepth 100000 in
theorem h_X12_duel_60 (l : Launch) (S : CallFix P9 m9 C9 cX12_duel 9 s av.toArray gx_G RX12) (hr : meth.sig.returnType = (some .int)) (hlk : meth.locks = false) (hK : gx_K E s) (N : Nat) : ∀ (n : Nat) (σ : gI) (τ : gJ) (x5 : Int32) (x6 : Int32) (r : Int32) (σ1 : gI) (τ1 : gJ), H_X12_duel_60 N n σ τ x5 x6 = some (r, σ1, τ1) → ∀ (H : Heap) (locs : List Loc) (ls : Array Slot), gx_W gx_tb gx_tb.length E s σ τ H locs → lv_has ls 9 [(0, .ref (E.2.2 + 199)), (5, .int x5), (6, .int x6)] → W P9 l e9 (gx_rm 51) s m9 av.toArray below meth C9 H locs 0 0 (gq_Qi below av s E r σ1 τ1) (F0 m9 60 ls []) := by
  intro n
  induction n with
  | zero => intro σ τ x5 x6 r σ1 τ1 h; cases h
  | succ n ih =>
    intro σ τ x5 x6 r σ1 τ1 h H locs ls hw hl
    exact k_X12_duel_60 l S hr hlk hK N (H_X12_duel_60 N n) (fun σ τ x5 x6 r σ1 τ1 H locs ls h hw hl => ih σ τ x5 x6 r σ1 τ1 h H locs ls hw hl) σ τ x5 x6 h hw hl
set_option maxHeartbeats 4000000 in
set_option maxRecDepth 100000 in
theorem b_X12_duel_0 (l : Launch) (S : CallFix P9 m9 C9 cX12_duel 9 s av.toArray gx_G RX12) (hr : meth.sig.returnType = (some .int)) (hlk : meth.locks = false) (hK : gx_K E s) (N : Nat) (σ : gI) (τ : gJ) (x1 : Int32) (x2 : Int32) (x3 : Int32) (x4 : Int32) (x5 : Int32) {r : Int32} {σ1 : gI} {τ1 : gJ} (h : B_X12_duel_0 N σ τ x1 x2 x3 x4 x5 = some (r, σ1, τ1)) {H : Heap} {locs : List Loc} {ls : Array Slot} (hw : gx_W gx_tb gx_tb.length E s σ τ H locs) (hl : lv_has ls 9 [(0, .ref (E.2.2 + 199)), (1, .int x1), (2, .int x2), (3, .int x3), (4, .int x4), (5, .int x5)]) : W P9 l e9 (gx_rm 51) s m9 av.toArray below meth C9 H locs 0 0 (gq_Qi below av s E r σ1 τ1) (F0 m9 0 ls []) := by
  have hx := S.1
  have hb := S.2.1
  unfold B_X12_duel_0 at h
  refine lv_aload_n hx hb dX12_duel_0 rfl (lv_at hl 0 rfl) ?_
  refine lv_iconst (v := 0) hx hb dX12_duel_1 (by decide) ?_
  refine gx_put S hK gx_ok hw t_199 cl_13 0 (by decide) rfl mw_1414 rfl rfl (ty := .int) (v := 0) (by decide +kernel) rfl rfl dX12_duel_2 (fun H locs hw => ?_)
  obtain ⟨σ_1, e_1, h⟩ := nm_some h
  rw [← e_1] at hw
  refine lv_aload_n hx hb dX12_duel_5 rfl (lv_at hl 0 rfl) ?_
  refine lv_iload_n hx hb dX12_duel_6 rfl (lv_at hl 1 rfl) ?_
  refine lv_iload_n hx hb dX12_duel_7 rfl (lv_at hl 2 rfl) ?_
  refine lv_iload_n hx hb dX12_duel_8 rfl (lv_at hl 3 rfl) ?_
  refine lv_iload hx hb dX12_duel_9 (lv_at hl 4 rfl) ?_
  obtain ⟨r_2, σ_2, τ_2, q_2, h⟩ := bd_some h
  refine gx_cVi (As := [.int x1, .int x2, .int x3, .int x4]) (rest := []) S hK gx_ok hw (c_X12_canSail l (E := E) N σ_1 τ x1 x2 x3 x4 q_2) cw_X12_405 t_199 cl_13 ⟨Nat.le_of_ble_eq_true rfl, Nat.le_of_ble_eq_true rfl⟩ rfl hl.1 rfl (Nat.le_of_ble_eq_true rfl) ⟨Nat.le_of_ble_eq_true rfl, Nat.le_of_ble_eq_true rfl⟩ dX12_duel_11 (fun r9 σ9 τ9 H locs hp hw => ?_)
  obtain ⟨rfl, rfl, rfl⟩ := hp
  refine lv_if_eq (tgt := 30) hx hb dX12_duel_14 (by decide) (fun c_3 => ?_) (fun c_3 => ?_)
  · rw [if_pos c_3] at h
    refine lv_iconst (v := (-1)) hx hb dX12_duel_30 (by decide) ?_
    obtain ⟨rfl, rfl, rfl⟩ := sm_inj h
    exact gx_ri (post := gq_p (-1) σ_2 τ_2) (v := (-1)) S hr hlk hw rfl dX12_duel_31 ⟨rfl, rfl, rfl⟩
  · rw [if_neg c_3] at h
    refine lv_iload hx hb dX12_duel_17 (lv_at hl 5 rfl) ?_
    refine lv_i2l (v := x5.toInt64) hx hb dX12_duel_19 rfl ?_
    refine lv_lconst (v := 0) hx hb dX12_duel_20 (by decide) ?_
    refine lv_ldc2 (v := 3) hx hb S.2.2.2.1 (S.2.2.2.2 _ mw_1840) dX12_duel_21 ?_
    obtain ⟨r_4, σ_4, τ_4, q_4, h⟩ := bd_some h
    refine gx_cSi (As := [.long x5.toInt64, .long 0, .long 3]) (rest := []) S hK gx_ok hw (c_X12_in l (E := E) N σ_2 τ_2 x5.toInt64 0 3 q_4) cw_X12_129 ⟨Nat.le_of_ble_eq_true rfl, Nat.le_of_ble_eq_true rfl⟩ rfl hl.1 rfl (Nat.le_of_ble_eq_true rfl) ⟨Nat.le_of_ble_eq_true rfl, Nat.le_of_ble_eq_true rfl⟩ dX12_duel_24 (fun r9 σ9 τ9 H locs hp hw => ?_)
    obtain ⟨rfl, rfl, rfl⟩ := hp
    refine lv_if_ne (tgt := 32) hx hb dX12_duel_27 (by decide) (fun c_5 => ?_) (fun c_5 => ?_)
    · rw [if_neg c_5] at h
      refine lv_aload_n hx hb dX12_duel_32 rfl (lv_at hl 0 rfl) ?_
      obtain ⟨u_6, σ_6, τ_6, q_6, h⟩ := bd_some h
      refine gx_cVv (As := []) (rest := []) S hK gx_ok hw (c_X12_thinksNow l (E := E) N σ_4 τ_4 q_6) cw_X12_409 t_199 cl_13 ⟨Nat.le_of_ble_eq_true rfl, Nat.le_of_ble_eq_true rfl⟩ rfl hl.1 rfl (Nat.le_of_ble_eq_true rfl) ⟨Nat.le_of_ble_eq_true rfl, Nat.le_of_ble_eq_true rfl⟩ dX12_duel_33 (fun σ9 τ9 H locs hp hw => ?_)
      obtain ⟨rfl, rfl⟩ := hp
      refine lv_aload_n hx hb dX12_duel_36 rfl (lv_at hl 0 rfl) ?_
      refine lv_iload_n hx hb dX12_duel_37 rfl (lv_at hl 1 rfl) ?_
      refine gx_put S hK gx_ok hw t_199 cl_13 48 (by decide) rfl mw_1462 rfl rfl (ty := .int) (v := x1) (by decide +kernel) rfl rfl dX12_duel_38 (fun H locs hw => ?_)
      obtain ⟨σ_7, e_7, h⟩ := nm_some h
      rw [← e_7] at hw
      refine lv_aload_n hx hb dX12_duel_41 rfl (lv_at hl 0 rfl) ?_
      refine lv_iload_n hx hb dX12_duel_42 rfl (lv_at hl 2 rfl) ?_
      refine gx_put S hK gx_ok hw t_199 cl_13 49 (by decide) rfl mw_1463 rfl rfl (ty := .int) (v := x2) (by decide +kernel) rfl rfl dX12_duel_43 (fun H locs hw => ?_)
      obtain ⟨σ_8, e_8, h⟩ := nm_some h
      rw [← e_8] at hw
      refine lv_aload_n hx hb dX12_duel_46 rfl (lv_at hl 0 rfl) ?_
      refine lv_iload_n hx hb dX12_duel_47 rfl (lv_at hl 3 rfl) ?_
      refine gx_put S hK gx_ok hw t_199 cl_13 50 (by decide) rfl mw_1464 rfl rfl (ty := .int) (v := x3) (by decide +kernel) rfl rfl dX12_duel_48 (fun H locs hw => ?_)
      obtain ⟨σ_9, e_9, h⟩ := nm_some h
      rw [← e_9] at hw
      refine lv_aload_n hx hb dX12_duel_51 rfl (lv_at hl 0 rfl) ?_
      refine lv_iload hx hb dX12_duel_52 (lv_at hl 4 rfl) ?_
      refine gx_put S hK gx_ok hw t_199 cl_13 51 (by decide) rfl mw_1465 rfl rfl (ty := .int) (v := x4) (by decide +kernel) rfl rfl dX12_duel_54 (fun H locs hw => ?_)
      obtain ⟨σ_10, e_10, h⟩ := nm_some h
      rw [← e_10] at hw
      refine lv_iconst (v := 0) hx hb dX12_duel_57 (by decide) ?_
      refine lv_istore (lv' := [(6, .int 0), (0, .ref (E.2.2 + 199)), (1, .int x1), (2, .int x2), (3, .int x3), (4, .int x4), (5, .int x5)]) hx hb dX12_duel_58 hl (by decide) rfl (fun ls hl => ?_)
      exact h_X12_duel_60 l S hr hlk hK N N σ_10 τ_6 x5 0 _ _ _ h _ _ _ hw (lv_sub hl [1, 6, 0] rfl)
    · rw [if_pos c_5] at h
      refine lv_iconst (v := (-1)) hx hb dX12_duel_30 (by decide) ?_
      obtain ⟨rfl, rfl, rfl⟩ := sm_inj h
      exact gx_ri (post := gq_p (-1) σ_4 τ_4) (v := (-1)) S hr hlk hw rfl dX12_duel_31 ⟨rfl, rfl, rfl⟩
set_option maxHeartbeats 4000000 in
set_option maxRecDepth 100000 in
theorem c_X12_duel (l : Launch) {E : gE} (N : Nat) (σ : gI) (τ : gJ) (x1 : Int32) (x2 : Int32) (x3 : Int32) (x4 : Int32) (x5 : Int32) {r : Int32} {σ1 : gI} {τ1 : gJ} (h : B_X12_duel_0 N σ τ x1 x2 x3 x4 x5 = some (r, σ1, τ1)) : gx_Mi l yX12_duel cX12_duel 9 (some .int) 51 gx_tb E σ τ [.ref (E.2.2 + 199), .int x1, .int x2, .int x3, .int x4, .int x5] (gq_p r σ1 τ1) := by
  refine gx_bi (by decide +kernel) (Nat.le_of_ble_eq_true rfl) ?_
  intro P9 e9 s m9 below meth C9 S hr hlk hK hw ls hl
  have hl : lv_has ls 9 [(0, .ref (E.2.2 + 199)), (1, .int x1), (2, .int x2), (3, .int x3), (4, .int x4), (5, .int x5)] := hl
  exact b_X12_duel_0 l S hr hlk hK N σ τ x1 x2 x3 x4 x5 h hw hl
/-! X12_end -/
def B_X12_end_0 (N : Nat) (σ : gI) (τ : gJ) (x1 : Int32) : Option (Int32 × gI × gJ) := nm (up2 σ 199 0 0) fun σ_1 => bd (B_X12_in_0 N σ_1 τ x1.toInt64 0 ((σ_1 199 13).toInt64)) fun r_2 σ_2 τ_2 => if r_2 = 0 then (some (0, σ_2, τ_2)) else (nm (up2 σ_2 199 13 x1) fun σ_4 => some (1, σ_4, τ_2))
set_option maxHeartbeats 4000000 in
set_option maxRecDepth 100000 in
theorem b_X12_end_0 (l : Launch) (S : CallFix P9 m9 C9 cX12_end 2 s av.toArray gx_G RX12) (hr : meth.sig.returnType = (some .boolean)) (hlk : meth.locks = false) (hK : gx_K E s) (N : Nat) (σ : gI) (τ : gJ) (x1 : Int32) {r : Int32} {σ1 : gI} {τ1 : gJ} (h : B_X12_end_0 N σ τ x1 = some (r, σ1, τ1)) {H : Heap} {locs : List Loc} {ls : Array Slot} (hw : gx_W gx_tb gx_tb.length E s σ τ H locs) (hl : lv_has ls 2 [(0, .ref (E.2.2 + 199)), (1, .int x1)]) : W P9 l e9 (gx_rm 1) s m9 av.toArray below meth C9 H locs 0 0 (gq_Qi below av s E r σ1 τ1) (F0 m9 0 ls []) := by
  have hx := S.1
  have hb := S.2.1
  unfold B_X12_end_0 at h
  refine lv_aload_n hx hb dX12_end_0 rfl (lv_at hl 0 rfl) ?_
  refine lv_iconst (v := 0) hx hb dX12_end_1 (by decide) ?_
  refine gx_put S hK gx_ok hw t_199 cl_13 0 (by decide) rfl mw_1414 rfl rfl (ty := .int) (v := 0) (by decide +kernel) rfl rfl dX12_end_2 (fun H locs hw => ?_)
  obtain ⟨σ_1, e_1, h⟩ := nm_some h
  rw [← e_1] at hw
  refine lv_iload_n hx hb dX12_end_5 rfl (lv_at hl 1 rfl) ?_
  refine lv_i2l (v := x1.toInt64) hx hb dX12_end_6 rfl ?_
  refine lv_lconst (v := 0) hx hb dX12_end_7 (by decide) ?_
  refine lv_aload_n hx hb dX12_end_8 rfl (lv_at hl 0 rfl) ?_
  refine gx_get S hK hw t_199 cl_13 13 (by decide) rfl mw_1427 rfl dX12_end_9 ?_
  refine lv_i2l (v := (σ_1 199 13).toInt64) hx hb dX12_end_12 rfl ?_
  obtain ⟨r_2, σ_2, τ_2, q_2, h⟩ := bd_some h
  refine gx_cSi (As := [.long x1.toInt64, .long 0, .long ((σ_1 199 13).toInt64)]) (rest := []) S hK gx_ok hw (c_X12_in l (E := E) N σ_1 τ x1.toInt64 0 ((σ_1 199 13).toInt64) q_2) cw_X12_129 ⟨Nat.le_of_ble_eq_true rfl, Nat.le_of_ble_eq_true rfl⟩ rfl hl.1 rfl (Nat.le_of_ble_eq_true rfl) ⟨Nat.le_of_ble_eq_true rfl, Nat.le_of_ble_eq_true rfl⟩ dX12_end_13 (fun r9 σ9 τ9 H locs hp hw => ?_)
  obtain ⟨rfl, rfl, rfl⟩ := hp
  refine lv_if_ne (tgt := 21) hx hb dX12_end_16 (by decide) (fun c_3 => ?_) (fun c_3 => ?_)
  · rw [if_neg c_3] at h
    refine lv_aload_n hx hb dX12_end_21 rfl (lv_at hl 0 rfl) ?_
    refine lv_iload_n hx hb dX12_end_22 rfl (lv_at hl 1 rfl) ?_
    refine gx_put S hK gx_ok hw t_199 cl_13 13 (by decide) rfl mw_1427 rfl rfl (ty := .int) (v := x1) (by decide +kernel) rfl rfl dX12_end_23 (fun H locs hw => ?_)
    obtain ⟨σ_4, e_4, h⟩ := nm_some h
    rw [← e_4] at hw
    refine lv_iconst (v := 1) hx hb dX12_end_26 (by decide) ?_
    obtain ⟨rfl, rfl, rfl⟩ := sm_inj h
    exact gx_ri (post := gq_p 1 σ_4 τ_2) (v := 1) S hr hlk hw rfl dX12_end_27 ⟨rfl, rfl, rfl⟩
  · rw [if_pos c_3] at h
    refine lv_iconst (v := 0) hx hb dX12_end_19 (by decide) ?_
    obtain ⟨rfl, rfl, rfl⟩ := sm_inj h
    exact gx_ri (post := gq_p 0 σ_2 τ_2) (v := 0) S hr hlk hw rfl dX12_end_20 ⟨rfl, rfl, rfl⟩
set_option maxHeartbeats 4000000 in
set_option maxRecDepth 100000 in
theorem c_X12_end (l : Launch) {E : gE} (N : Nat) (σ : gI) (τ : gJ) (x1 : Int32) {r : Int32} {σ1 : gI} {τ1 : gJ} (h : B_X12_end_0 N σ τ x1 = some (r, σ1, τ1)) : gx_Mi l yX12_end cX12_end 2 (some .boolean) 1 gx_tb E σ τ [.ref (E.2.2 + 199), .int x1] (gq_p r σ1 τ1) := by
  refine gx_bi (by decide +kernel) (Nat.le_of_ble_eq_true rfl) ?_
  intro P9 e9 s m9 below meth C9 S hr hlk hK hw ls hl
  have hl : lv_has ls 2 [(0, .ref (E.2.2 + 199)), (1, .int x1)] := hl
  exact b_X12_end_0 l S hr hlk hK N σ τ x1 h hw hl
/-! X12_entersFraction -/
def B_X12_entersFraction_0 (N : Nat) (σ : gI) (τ : gJ) (x1 : Int64) (x3 : Int64) : Option (Unit × gI × gJ) := bd ((R_X12_common N 100) σ τ x1 x3) fun r_1 σ_1 τ_1 => dzl r_1 <| bd (B_X12_enters_0 N σ_1 τ_1 (x1 / r_1)) fun _ σ_3 τ_3 => dzl r_1 <| bd (B_X12_enters_0 N σ_3 τ_3 (x3 / r_1)) fun _ σ_5 τ_5 => some ((), σ_5, τ_5)
set_option maxHeartbeats 4000000 in
set_option maxRecDepth 100000 in
theorem b_X12_entersFraction_0 (l : Launch) (S : CallFix P9 m9 C9 cX12_entersFraction 7 s av.toArray gx_G RX12) (hr : meth.sig.returnType = none) (hlk : meth.locks = false) (hK : gx_K E s) (N : Nat) (σ : gI) (τ : gJ) (x1 : Int64) (x3 : Int64) {r : Unit} {σ1 : gI} {τ1 : gJ} (h : B_X12_entersFraction_0 N σ τ x1 x3 = some (r, σ1, τ1)) {H : Heap} {locs : List Loc} {ls : Array Slot} (hw : gx_W gx_tb gx_tb.length E s σ τ H locs) (hl : lv_has ls 7 [(0, .ref (E.2.2 + 199)), (1, .long x1), (3, .long x3)]) : W P9 l e9 (gx_rm 101) s m9 av.toArray below meth C9 H locs 0 0 (gq_Qv below av s E σ1 τ1) (F0 m9 0 ls []) := by
  have hx := S.1
  have hb := S.2.1
  unfold B_X12_entersFraction_0 at h
  refine lv_lload_n hx hb dX12_entersFraction_0 rfl (lv_at hl 1 rfl) ?_
  refine lv_lload_n hx hb dX12_entersFraction_1 rfl (lv_at hl 2 rfl) ?_
  obtain ⟨r_1, σ_1, τ_1, q_1, h⟩ := bd_some h
  refine gx_cSl (As := [.long x1, .long x3]) (rest := []) S hK gx_ok hw ((c_X12_common l (E := E) N 100) σ τ x1 x3 _ _ _ q_1) cw_X12_115 ⟨Nat.le_of_ble_eq_true rfl, Nat.le_of_ble_eq_true rfl⟩ rfl hl.1 rfl (Nat.le_of_ble_eq_true rfl) ⟨Nat.le_of_ble_eq_true rfl, Nat.le_of_ble_eq_true rfl⟩ dX12_entersFraction_2 (fun r9 σ9 τ9 H locs hp hw => ?_)
  obtain ⟨rfl, rfl, rfl⟩ := hp
  refine lv_lstore (lv' := [(5, .long r_1), (0, .ref (E.2.2 + 199)), (1, .long x1), (3, .long x3)]) hx hb dX12_entersFraction_5 hl (by decide) rfl (fun ls hl => ?_)
  refine lv_aload_n hx hb dX12_entersFraction_7 rfl (lv_at hl 1 rfl) ?_
  refine lv_lload_n hx hb dX12_entersFraction_8 rfl (lv_at hl 2 rfl) ?_
  refine lv_lload hx hb dX12_entersFraction_9 (lv_at hl 0 rfl) ?_
  obtain ⟨hz_2, h⟩ := dzl_some h
  refine lv_ldiv hx hb dX12_entersFraction_11 hz_2 ?_
  obtain ⟨u_3, σ_3, τ_3, q_3, h⟩ := bd_some h
  refine gx_cVv (As := [.long (x1 / r_1)]) (rest := []) S hK gx_ok hw (c_X12_enters l (E := E) N σ_1 τ_1 (x1 / r_1) q_3) cw_X12_122 t_199 cl_13 ⟨Nat.le_of_ble_eq_true rfl, Nat.le_of_ble_eq_true rfl⟩ rfl hl.1 rfl (Nat.le_of_ble_eq_true rfl) ⟨Nat.le_of_ble_eq_true rfl, Nat.le_of_ble_eq_true rfl⟩ dX12_entersFraction_12 (fun σ9 τ9 H locs hp hw => ?_)
  obtain ⟨rfl, rfl⟩ := hp
  refine lv_aload_n hx hb dX12_entersFraction_15 rfl (lv_at hl 1 rfl) ?_
  refine lv_lload_n hx hb dX12_entersFraction_16 rfl (lv_at hl 3 rfl) ?_
  refine lv_lload hx hb dX12_entersFraction_17 (lv_at hl 0 rfl) ?_
  obtain ⟨hz_4, h⟩ := dzl_some h
  refine lv_ldiv hx hb dX12_entersFraction_19 hz_4 ?_
  obtain ⟨u_5, σ_5, τ_5, q_5, h⟩ := bd_some h
  refine gx_cVv (As := [.long (x3 / r_1)]) (rest := []) S hK gx_ok hw (c_X12_enters l (E := E) N σ_3 τ_3 (x3 / r_1) q_5) cw_X12_122 t_199 cl_13 ⟨Nat.le_of_ble_eq_true rfl, Nat.le_of_ble_eq_true rfl⟩ rfl hl.1 rfl (Nat.le_of_ble_eq_true rfl) ⟨Nat.le_of_ble_eq_true rfl, Nat.le_of_ble_eq_true rfl⟩ dX12_entersFraction_20 (fun σ9 τ9 H locs hp hw => ?_)
  obtain ⟨rfl, rfl⟩ := hp
  obtain ⟨-, rfl, rfl⟩ := sm_inj h
  exact gx_rv (post := gq_v σ_5 τ_5) S hr hlk hw dX12_entersFraction_23 ⟨rfl, rfl⟩
set_option maxHeartbeats 4000000 in
set_option maxRecDepth 100000 in
theorem c_X12_entersFraction (l : Launch) {E : gE} (N : Nat) (σ : gI) (τ : gJ) (x1 : Int64) (x3 : Int64) {r : Unit} {σ1 : gI} {τ1 : gJ} (h : B_X12_entersFraction_0 N σ τ x1 x3 = some (r, σ1, τ1)) : gx_Mv l yX12_entersFraction cX12_entersFraction 7 none 101 gx_tb E σ τ [.ref (E.2.2 + 199), .long x1, .long x3] (gq_v σ1 τ1) := by
  refine gx_bv (by decide +kernel) (Nat.le_of_ble_eq_true rfl) ?_
  intro P9 e9 s m9 below meth C9 S hr hlk hK hw ls hl
  have hl : lv_has ls 7 [(0, .ref (E.2.2 + 199)), (1, .long x1), (3, .long x3)] := hl
  exact b_X12_entersFraction_0 l S hr hlk hK N σ τ x1 x3 h hw hl
/-! X12_floatsTo -/
def B_X12_floatsTo_0 (N : Nat) (σ : gI) (τ : gJ) (x1 : Int32) (x2 : Int32) (x3 : Int32) : Option (Int32 × gI × gJ) := nm (up2 σ 199 45 x3) fun σ_1 => nm (up2 σ_1 199 46 x2) fun σ_2 => bd (B_X12_goesAlone_0 N σ_2 τ x1 99 0 0) fun r_3 σ_3 τ_3 => if σ_3 224 4 = 1 then (some (σ_3 224 0, σ_3, τ_3)) else (some ((-1), σ_3, τ_3))
set_option maxHeartbeats 4000000 in
set_option maxRecDepth 100000 in
theorem b_X12_floatsTo_0 (l : Launch) (S : CallFix P9 m9 C9 cX12_floatsTo 4 s av.toArray gx_G RX12) (hr : meth.sig.returnType = (some .int)) (hlk : meth.locks = false) (hK : gx_K E s) (N : Nat) (σ : gI) (τ : gJ) (x1 : Int32) (x2 : Int32) (x3 : Int32) {r : Int32} {σ1 : gI} {τ1 : gJ} (h : B_X12_floatsTo_0 N σ τ x1 x2 x3 = some (r, σ1, τ1)) {H : Heap} {locs : List Loc} {ls : Array Slot} (hw : gx_W gx_tb gx_tb.length E s σ τ H locs) (hl : lv_has ls 4 [(0, .ref (E.2.2 + 199)), (1, .int x1), (2, .int x2), (3, .int x3)]) : W P9 l e9 (gx_rm 8) s m9 av.toArray below meth C9 H locs 0 0 (gq_Qi below av s E r σ1 τ1) (F0 m9 0 ls []) := by
  have hx := S.1
  have hb := S.2.1
  unfold B_X12_floatsTo_0 at h
  refine lv_aload_n hx hb dX12_floatsTo_0 rfl (lv_at hl 0 rfl) ?_
  refine lv_iload_n hx hb dX12_floatsTo_1 rfl (lv_at hl 3 rfl) ?_
  refine gx_put S hK gx_ok hw t_199 cl_13 45 (by decide) rfl mw_1459 rfl rfl (ty := .int) (v := x3) (by decide +kernel) rfl rfl dX12_floatsTo_2 (fun H locs hw => ?_)
  obtain ⟨σ_1, e_1, h⟩ := nm_some h
  rw [← e_1] at hw
  refine lv_aload_n hx hb dX12_floatsTo_5 rfl (lv_at hl 0 rfl) ?_
  refine lv_iload_n hx hb dX12_floatsTo_6 rfl (lv_at hl 2 rfl) ?_
  refine gx_put S hK gx_ok hw t_199 cl_13 46 (by decide) rfl mw_1460 rfl rfl (ty := .int) (v := x2) (by decide +kernel) rfl rfl dX12_floatsTo_7 (fun H locs hw => ?_)
  obtain ⟨σ_2, e_2, h⟩ := nm_some h
  rw [← e_2] at hw
  refine lv_aload_n hx hb dX12_floatsTo_10 rfl (lv_at hl 0 rfl) ?_
  refine lv_iload_n hx hb dX12_floatsTo_11 rfl (lv_at hl 1 rfl) ?_
  refine lv_bipush (v := 99) hx hb dX12_floatsTo_12 (by decide) ?_
  refine lv_iconst (v := 0) hx hb dX12_floatsTo_14 (by decide) ?_
  refine lv_iconst (v := 0) hx hb dX12_floatsTo_15 (by decide) ?_
  obtain ⟨r_3, σ_3, τ_3, q_3, h⟩ := bd_some h
  refine gx_cVi (As := [.int x1, .int 99, .int 0, .int 0]) (rest := []) S hK gx_ok hw (c_X12_goesAlone l (E := E) N σ_2 τ x1 99 0 0 q_3) cw_X12_399 t_199 cl_13 ⟨Nat.le_of_ble_eq_true rfl, Nat.le_of_ble_eq_true rfl⟩ rfl hl.1 rfl (Nat.le_of_ble_eq_true rfl) ⟨Nat.le_of_ble_eq_true rfl, Nat.le_of_ble_eq_true rfl⟩ dX12_floatsTo_16 (fun r9 σ9 τ9 H locs hp hw => ?_)
  obtain ⟨rfl, rfl, rfl⟩ := hp
  refine lv_pop hx hb dX12_floatsTo_19 rfl ?_
  refine lv_aload_n hx hb dX12_floatsTo_20 rfl (lv_at hl 0 rfl) ?_
  refine gx_getr (j := 224) S hK hw t_199 cl_13 44 (by decide) rfl mw_1458 rfl dX12_floatsTo_21 ?_
  refine lv_iconst (v := 4) hx hb dX12_floatsTo_24 (by decide) ?_
  refine gx_iald S hK hw t_224 4 rfl (gx_in rfl (by decide) (by decide)) dX12_floatsTo_25 ?_
  refine lv_iconst (v := 1) hx hb dX12_floatsTo_26 (by decide) ?_
  refine lv_icmp_ne (tgt := 39) hx hb dX12_floatsTo_27 (by decide) (fun c_4 => ?_) (fun c_4 => ?_)
  · rw [if_neg c_4] at h
    refine lv_iconst (v := (-1)) hx hb dX12_floatsTo_39 (by decide) ?_
    obtain ⟨rfl, rfl, rfl⟩ := sm_inj h
    exact gx_ri (post := gq_p (-1) σ_3 τ_3) (v := (-1)) S hr hlk hw rfl dX12_floatsTo_40 ⟨rfl, rfl, rfl⟩
  · rw [if_pos c_4] at h
    refine lv_aload_n hx hb dX12_floatsTo_30 rfl (lv_at hl 0 rfl) ?_
    refine gx_getr (j := 224) S hK hw t_199 cl_13 44 (by decide) rfl mw_1458 rfl dX12_floatsTo_31 ?_
    refine lv_iconst (v := 0) hx hb dX12_floatsTo_34 (by decide) ?_
    refine gx_iald S hK hw t_224 0 rfl (gx_in rfl (by decide) (by decide)) dX12_floatsTo_35 ?_
    refine lv_goto (tgt := 40) hx hb dX12_floatsTo_36 (by decide) ?_
    obtain ⟨rfl, rfl, rfl⟩ := sm_inj h
    exact gx_ri (post := gq_p (σ_3 224 0) σ_3 τ_3) (v := σ_3 224 0) S hr hlk hw rfl dX12_floatsTo_40 ⟨rfl, rfl, rfl⟩
set_option maxHeartbeats 4000000 in
set_option maxRecDepth 100000 in
theorem c_X12_floatsTo (l : Launch) {E : gE} (N : Nat) (σ : gI) (τ : gJ) (x1 : Int32) (x2 : Int32) (x3 : Int32) {r : Int32} {σ1 : gI} {τ1 : gJ} (h : B_X12_floatsTo_0 N σ τ x1 x2 x3 = some (r, σ1, τ1)) : gx_Mi l yX12_floatsTo cX12_floatsTo 4 (some .int) 8 gx_tb E σ τ [.ref (E.2.2 + 199), .int x1, .int x2, .int x3] (gq_p r σ1 τ1) := by
  refine gx_bi (by decide +kernel) (Nat.le_of_ble_eq_true rfl) ?_
  intro P9 e9 s m9 below meth C9 S hr hlk hK hw ls hl
  have hl : lv_has ls 4 [(0, .ref (E.2.2 + 199)), (1, .int x1), (2, .int x2), (3, .int x3)] := hl
  exact b_X12_floatsTo_0 l S hr hlk hK N σ τ x1 x2 x3 h hw hl
/-! X12_flow -/
def B_X12_flow_0 (N : Nat) (σ : gI) (τ : gJ) (x1 : Int32) : Option (Int32 × gI × gJ) := nm (up2 σ 199 0 0) fun σ_1 => bd (B_X12_in_0 N σ_1 τ x1.toInt64 0 9999) fun r_2 σ_2 τ_2 => if r_2 = 0 then (some ((-1), σ_2, τ_2)) else (bd (B_X12_waterIn_0 N σ_2 τ_2 x1) fun r_4 σ_4 τ_4 => some (r_4, σ_4, τ_4))
set_option maxHeartbeats 4000000 in
set_option maxRecDepth 100000 in
theorem b_X12_flow_0 (l : Launch) (S : CallFix P9 m9 C9 cX12_flow 2 s av.toArray gx_G RX12) (hr : meth.sig.returnType = (some .int)) (hlk : meth.locks = false) (hK : gx_K E s) (N : Nat) (σ : gI) (τ : gJ) (x1 : Int32) {r : Int32} {σ1 : gI} {τ1 : gJ} (h : B_X12_flow_0 N σ τ x1 = some (r, σ1, τ1)) {H : Heap} {locs : List Loc} {ls : Array Slot} (hw : gx_W gx_tb gx_tb.length E s σ τ H locs) (hl : lv_has ls 2 [(0, .ref (E.2.2 + 199)), (1, .int x1)]) : W P9 l e9 (gx_rm 2) s m9 av.toArray below meth C9 H locs 0 0 (gq_Qi below av s E r σ1 τ1) (F0 m9 0 ls []) := by
  have hx := S.1
  have hb := S.2.1
  unfold B_X12_flow_0 at h
  refine lv_aload_n hx hb dX12_flow_0 rfl (lv_at hl 0 rfl) ?_
  refine lv_iconst (v := 0) hx hb dX12_flow_1 (by decide) ?_
  refine gx_put S hK gx_ok hw t_199 cl_13 0 (by decide) rfl mw_1414 rfl rfl (ty := .int) (v := 0) (by decide +kernel) rfl rfl dX12_flow_2 (fun H locs hw => ?_)
  obtain ⟨σ_1, e_1, h⟩ := nm_some h
  rw [← e_1] at hw
  refine lv_iload_n hx hb dX12_flow_5 rfl (lv_at hl 1 rfl) ?_
  refine lv_i2l (v := x1.toInt64) hx hb dX12_flow_6 rfl ?_
  refine lv_lconst (v := 0) hx hb dX12_flow_7 (by decide) ?_
  refine lv_ldc2 (v := 9999) hx hb S.2.2.2.1 (S.2.2.2.2 _ mw_1808) dX12_flow_8 ?_
  obtain ⟨r_2, σ_2, τ_2, q_2, h⟩ := bd_some h
  refine gx_cSi (As := [.long x1.toInt64, .long 0, .long 9999]) (rest := []) S hK gx_ok hw (c_X12_in l (E := E) N σ_1 τ x1.toInt64 0 9999 q_2) cw_X12_129 ⟨Nat.le_of_ble_eq_true rfl, Nat.le_of_ble_eq_true rfl⟩ rfl hl.1 rfl (Nat.le_of_ble_eq_true rfl) ⟨Nat.le_of_ble_eq_true rfl, Nat.le_of_ble_eq_true rfl⟩ dX12_flow_11 (fun r9 σ9 τ9 H locs hp hw => ?_)
  obtain ⟨rfl, rfl, rfl⟩ := hp
  refine lv_if_eq (tgt := 25) hx hb dX12_flow_14 (by decide) (fun c_3 => ?_) (fun c_3 => ?_)
  · rw [if_pos c_3] at h
    refine lv_iconst (v := (-1)) hx hb dX12_flow_25 (by decide) ?_
    obtain ⟨rfl, rfl, rfl⟩ := sm_inj h
    exact gx_ri (post := gq_p (-1) σ_2 τ_2) (v := (-1)) S hr hlk hw rfl dX12_flow_26 ⟨rfl, rfl, rfl⟩
  · rw [if_neg c_3] at h
    refine lv_aload_n hx hb dX12_flow_17 rfl (lv_at hl 0 rfl) ?_
    refine lv_iload_n hx hb dX12_flow_18 rfl (lv_at hl 1 rfl) ?_
    obtain ⟨r_4, σ_4, τ_4, q_4, h⟩ := bd_some h
    refine gx_cVi (As := [.int x1]) (rest := []) S hK gx_ok hw (c_X12_waterIn l (E := E) N σ_2 τ_2 x1 q_4) cw_X12_268 t_199 cl_13 ⟨Nat.le_of_ble_eq_true rfl, Nat.le_of_ble_eq_true rfl⟩ rfl hl.1 rfl (Nat.le_of_ble_eq_true rfl) ⟨Nat.le_of_ble_eq_true rfl, Nat.le_of_ble_eq_true rfl⟩ dX12_flow_19 (fun r9 σ9 τ9 H locs hp hw => ?_)
    obtain ⟨rfl, rfl, rfl⟩ := hp
    refine lv_goto (tgt := 26) hx hb dX12_flow_22 (by decide) ?_
    obtain ⟨rfl, rfl, rfl⟩ := sm_inj h
    exact gx_ri (post := gq_p r_4 σ_4 τ_4) (v := r_4) S hr hlk hw rfl dX12_flow_26 ⟨rfl, rfl, rfl⟩
set_option maxHeartbeats 4000000 in
set_option maxRecDepth 100000 in
theorem c_X12_flow (l : Launch) {E : gE} (N : Nat) (σ : gI) (τ : gJ) (x1 : Int32) {r : Int32} {σ1 : gI} {τ1 : gJ} (h : B_X12_flow_0 N σ τ x1 = some (r, σ1, τ1)) : gx_Mi l yX12_flow cX12_flow 2 (some .int) 2 gx_tb E σ τ [.ref (E.2.2 + 199), .int x1] (gq_p r σ1 τ1) := by
  refine gx_bi (by decide +kernel) (Nat.le_of_ble_eq_true rfl) ?_
  intro P9 e9 s m9 below meth C9 S hr hlk hK hw ls hl
  have hl : lv_has ls 2 [(0, .ref (E.2.2 + 199)), (1, .int x1)] := hl
  exact b_X12_flow_0 l S hr hlk hK N σ τ x1 h hw hl
/-! X12_forget -/
def B_X12_forget_0 (N : Nat) (σ : gI) (τ : gJ) : Option (Int32 × gI × gJ) := nm (up2 σ 199 0 0) fun σ_1 => nm (σ_1 199 52) fun v_2 => nm (up2 σ_1 199 52 0) fun σ_3 => some (v_2, σ_3, τ)
set_option maxHeartbeats 4000000 in
set_option maxRecDepth 100000 in
theorem b_X12_forget_0 (l : Launch) (S : CallFix P9 m9 C9 cX12_forget 2 s av.toArray gx_G RX12) (hr : meth.sig.returnType = (some .int)) (hlk : meth.locks = false) (hK : gx_K E s) (N : Nat) (σ : gI) (τ : gJ) {r : Int32} {σ1 : gI} {τ1 : gJ} (h : B_X12_forget_0 N σ τ = some (r, σ1, τ1)) {H : Heap} {locs : List Loc} {ls : Array Slot} (hw : gx_W gx_tb gx_tb.length E s σ τ H locs) (hl : lv_has ls 2 [(0, .ref (E.2.2 + 199))]) : W P9 l e9 (gx_rm 0) s m9 av.toArray below meth C9 H locs 0 0 (gq_Qi below av s E r σ1 τ1) (F0 m9 0 ls []) := by
  have hx := S.1
  have hb := S.2.1
  unfold B_X12_forget_0 at h
  refine lv_aload_n hx hb dX12_forget_0 rfl (lv_at hl 0 rfl) ?_
  refine lv_iconst (v := 0) hx hb dX12_forget_1 (by decide) ?_
  refine gx_put S hK gx_ok hw t_199 cl_13 0 (by decide) rfl mw_1414 rfl rfl (ty := .int) (v := 0) (by decide +kernel) rfl rfl dX12_forget_2 (fun H locs hw => ?_)
  obtain ⟨σ_1, e_1, h⟩ := nm_some h
  rw [← e_1] at hw
  refine lv_aload_n hx hb dX12_forget_5 rfl (lv_at hl 0 rfl) ?_
  refine gx_get S hK hw t_199 cl_13 52 (by decide) rfl mw_1466 rfl dX12_forget_6 ?_
  refine lv_istore_n (lv' := [(1, .int (σ_1 199 52)), (0, .ref (E.2.2 + 199))]) hx hb dX12_forget_9 rfl hl (by decide) rfl (fun ls hl => ?_)
  obtain ⟨v_2, e_2, h⟩ := nm_some h
  have hl : lv_has ls 2 [(1, .int v_2), (0, .ref (E.2.2 + 199))] := by rw [e_2]; exact hl
  refine lv_aload_n hx hb dX12_forget_10 rfl (lv_at hl 1 rfl) ?_
  refine lv_iconst (v := 0) hx hb dX12_forget_11 (by decide) ?_
  refine gx_put S hK gx_ok hw t_199 cl_13 52 (by decide) rfl mw_1466 rfl rfl (ty := .int) (v := 0) (by decide +kernel) rfl rfl dX12_forget_12 (fun H locs hw => ?_)
  obtain ⟨σ_3, e_3, h⟩ := nm_some h
  rw [← e_3] at hw
  refine lv_iload_n hx hb dX12_forget_15 rfl (lv_at hl 0 rfl) ?_
  obtain ⟨rfl, rfl, rfl⟩ := sm_inj h
  exact gx_ri (post := gq_p v_2 σ_3 τ) (v := v_2) S hr hlk hw rfl dX12_forget_16 ⟨rfl, rfl, rfl⟩
set_option maxHeartbeats 4000000 in
set_option maxRecDepth 100000 in
theorem c_X12_forget (l : Launch) {E : gE} (N : Nat) (σ : gI) (τ : gJ) {r : Int32} {σ1 : gI} {τ1 : gJ} (h : B_X12_forget_0 N σ τ = some (r, σ1, τ1)) : gx_Mi l yX12_forget cX12_forget 2 (some .int) 0 gx_tb E σ τ [.ref (E.2.2 + 199)] (gq_p r σ1 τ1) := by
  refine gx_bi (by decide +kernel) (Nat.le_of_ble_eq_true rfl) ?_
  intro P9 e9 s m9 below meth C9 S hr hlk hK hw ls hl
  have hl : lv_has ls 2 [(0, .ref (E.2.2 + 199))] := hl
  exact b_X12_forget_0 l S hr hlk hK N σ τ h hw hl
/-! X12_give -/
def B_X12_give_0 (N : Nat) (σ : gI) (τ : gJ) (x1 : Int32) (x2 : Int32) : Option (Int32 × gI × gJ) := nm (up2 σ 199 0 0) fun σ_1 => bd (B_X12_putsBy_0 N σ_1 τ) fun _ σ_2 τ_2 => bd (B_X12_gives_0 N σ_2 τ_2 x1 x2) fun r_3 σ_3 τ_3 => if 0 ≤ r_3 then (bd (B_X12_adds_0 N σ_3 τ_3 r_3) fun r_5 σ_5 τ_5 => some (r_5, σ_5, τ_5)) else (some (r_3, σ_3, τ_3))
set_option maxHeartbeats 4000000 in
set_option maxRecDepth 100000 in
theorem b_X12_give_0 (l : Launch) (S : CallFix P9 m9 C9 cX12_give 4 s av.toArray gx_G RX12) (hr : meth.sig.returnType = (some .int)) (hlk : meth.locks = false) (hK : gx_K E s) (N : Nat) (σ : gI) (τ : gJ) (x1 : Int32) (x2 : Int32) {r : Int32} {σ1 : gI} {τ1 : gJ} (h : B_X12_give_0 N σ τ x1 x2 = some (r, σ1, τ1)) {H : Heap} {locs : List Loc} {ls : Array Slot} (hw : gx_W gx_tb gx_tb.length E s σ τ H locs) (hl : lv_has ls 4 [(0, .ref (E.2.2 + 199)), (1, .int x1), (2, .int x2)]) : W P9 l e9 (gx_rm 3) s m9 av.toArray below meth C9 H locs 0 0 (gq_Qi below av s E r σ1 τ1) (F0 m9 0 ls []) := by
  have hx := S.1
  have hb := S.2.1
  unfold B_X12_give_0 at h
  refine lv_aload_n hx hb dX12_give_0 rfl (lv_at hl 0 rfl) ?_
  refine lv_iconst (v := 0) hx hb dX12_give_1 (by decide) ?_
  refine gx_put S hK gx_ok hw t_199 cl_13 0 (by decide) rfl mw_1414 rfl rfl (ty := .int) (v := 0) (by decide +kernel) rfl rfl dX12_give_2 (fun H locs hw => ?_)
  obtain ⟨σ_1, e_1, h⟩ := nm_some h
  rw [← e_1] at hw
  refine lv_aload_n hx hb dX12_give_5 rfl (lv_at hl 0 rfl) ?_
  obtain ⟨u_2, σ_2, τ_2, q_2, h⟩ := bd_some h
  refine gx_cVv (As := []) (rest := []) S hK gx_ok hw (c_X12_putsBy l (E := E) N σ_1 τ q_2) cw_X12_319 t_199 cl_13 ⟨Nat.le_of_ble_eq_true rfl, Nat.le_of_ble_eq_true rfl⟩ rfl hl.1 rfl (Nat.le_of_ble_eq_true rfl) ⟨Nat.le_of_ble_eq_true rfl, Nat.le_of_ble_eq_true rfl⟩ dX12_give_6 (fun σ9 τ9 H locs hp hw => ?_)
  obtain ⟨rfl, rfl⟩ := hp
  refine lv_aload_n hx hb dX12_give_9 rfl (lv_at hl 0 rfl) ?_
  refine lv_iload_n hx hb dX12_give_10 rfl (lv_at hl 1 rfl) ?_
  refine lv_iload_n hx hb dX12_give_11 rfl (lv_at hl 2 rfl) ?_
  obtain ⟨r_3, σ_3, τ_3, q_3, h⟩ := bd_some h
  refine gx_cVi (As := [.int x1, .int x2]) (rest := []) S hK gx_ok hw (c_X12_gives l (E := E) N σ_2 τ_2 x1 x2 q_3) cw_X12_343 t_199 cl_13 ⟨Nat.le_of_ble_eq_true rfl, Nat.le_of_ble_eq_true rfl⟩ rfl hl.1 rfl (Nat.le_of_ble_eq_true rfl) ⟨Nat.le_of_ble_eq_true rfl, Nat.le_of_ble_eq_true rfl⟩ dX12_give_12 (fun r9 σ9 τ9 H locs hp hw => ?_)
  obtain ⟨rfl, rfl, rfl⟩ := hp
  refine lv_istore_n (lv' := [(3, .int r_3), (0, .ref (E.2.2 + 199)), (1, .int x1), (2, .int x2)]) hx hb dX12_give_15 rfl hl (by decide) rfl (fun ls hl => ?_)
  refine lv_iload_n hx hb dX12_give_16 rfl (lv_at hl 0 rfl) ?_
  refine lv_if_ge (tgt := 24) hx hb dX12_give_17 (by decide) (fun c_4 => ?_) (fun c_4 => ?_)
  · rw [if_pos c_4] at h
    refine lv_aload_n hx hb dX12_give_24 rfl (lv_at hl 1 rfl) ?_
    refine lv_iload_n hx hb dX12_give_25 rfl (lv_at hl 0 rfl) ?_
    obtain ⟨r_5, σ_5, τ_5, q_5, h⟩ := bd_some h
    refine gx_cVi (As := [.int r_3]) (rest := []) S hK gx_ok hw (c_X12_adds l (E := E) N σ_3 τ_3 r_3 q_5) cw_X12_322 t_199 cl_13 ⟨Nat.le_of_ble_eq_true rfl, Nat.le_of_ble_eq_true rfl⟩ rfl hl.1 rfl (Nat.le_of_ble_eq_true rfl) ⟨Nat.le_of_ble_eq_true rfl, Nat.le_of_ble_eq_true rfl⟩ dX12_give_26 (fun r9 σ9 τ9 H locs hp hw => ?_)
    obtain ⟨rfl, rfl, rfl⟩ := hp
    obtain ⟨rfl, rfl, rfl⟩ := sm_inj h
    exact gx_ri (post := gq_p r_5 σ_5 τ_5) (v := r_5) S hr hlk hw rfl dX12_give_29 ⟨rfl, rfl, rfl⟩
  · rw [if_neg c_4] at h
    refine lv_iload_n hx hb dX12_give_20 rfl (lv_at hl 0 rfl) ?_
    refine lv_goto (tgt := 29) hx hb dX12_give_21 (by decide) ?_
    obtain ⟨rfl, rfl, rfl⟩ := sm_inj h
    exact gx_ri (post := gq_p r_3 σ_3 τ_3) (v := r_3) S hr hlk hw rfl dX12_give_29 ⟨rfl, rfl, rfl⟩
set_option maxHeartbeats 4000000 in
set_option maxRecDepth 100000 in
theorem c_X12_give (l : Launch) {E : gE} (N : Nat) (σ : gI) (τ : gJ) (x1 : Int32) (x2 : Int32) {r : Int32} {σ1 : gI} {τ1 : gJ} (h : B_X12_give_0 N σ τ x1 x2 = some (r, σ1, τ1)) : gx_Mi l yX12_give cX12_give 4 (some .int) 3 gx_tb E σ τ [.ref (E.2.2 + 199), .int x1, .int x2] (gq_p r σ1 τ1) := by
  refine gx_bi (by decide +kernel) (Nat.le_of_ble_eq_true rfl) ?_
  intro P9 e9 s m9 below meth C9 S hr hlk hK hw ls hl
  have hl : lv_has ls 4 [(0, .ref (E.2.2 + 199)), (1, .int x1), (2, .int x2)] := hl
  exact b_X12_give_0 l S hr hlk hK N σ τ x1 x2 h hw hl
/-! X12_goesOn -/
def C_X12_goesOn_13 (N : Nat) (rec_13 : gI → gJ → Int32 → Int32 → Option (Unit × gI × gJ)) (σ : gI) (τ : gJ) (x1 : Int32) (x2 : Int32) : Option (Unit × gI × gJ) := if x1 ≤ x2 then (some ((), σ, τ)) else (bd (B_X12_minuteGoes_0 N 207 σ τ) fun _ σ_2 τ_2 => nm (x2 + 1) fun v_3 => rec_13 σ_2 τ_2 x1 v_3)
def H_X12_goesOn_13 (N : Nat) : Nat → gI → gJ → Int32 → Int32 → Option (Unit × gI × gJ) := itn (fun rec_13 => C_X12_goesOn_13 N rec_13) (fun _ _ _ _ => none)
def B_X12_goesOn_0 (N : Nat) (σ : gI) (τ : gJ) (x1 : Int32) : Option (Unit × gI × gJ) := bd (B_X12_puts_0 N σ τ) fun _ σ_1 τ_1 => H_X12_goesOn_13 N N σ_1 τ_1 x1 0
set_option maxHeartbeats 4000000 in
set_option maxRecDepth 100000 in
theorem k_X12_goesOn_13 (l : Launch) (S : CallFix P9 m9 C9 cX12_goesOn 3 s av.toArray gx_G RX12) (hr : meth.sig.returnType = none) (hlk : meth.locks = false) (hK : gx_K E s) (N : Nat) (rec_13 : gI → gJ → Int32 → Int32 → Option (Unit × gI × gJ)) (hrec_13 : ∀ (σ : gI) (τ : gJ) (x1 : Int32) (x2 : Int32) (r : Unit) (σ1 : gI) (τ1 : gJ) (H : Heap) (locs : List Loc) (ls : Array Slot), rec_13 σ τ x1 x2 = some (r, σ1, τ1) → gx_W gx_tb gx_tb.length E s σ τ H locs → lv_has ls 3 [(0, .ref (E.2.2 + 199)), (1, .int x1), (2, .int x2)] → W P9 l e9 (gx_rm 6) s m9 av.toArray below meth C9 H locs 0 0 (gq_Qv below av s E σ1 τ1) (F0 m9 13 ls [])) (σ : gI) (τ : gJ) (x1 : Int32) (x2 : Int32) {r : Unit} {σ1 : gI} {τ1 : gJ} (h : C_X12_goesOn_13 N rec_13 σ τ x1 x2 = some (r, σ1, τ1)) {H : Heap} {locs : List Loc} {ls : Array Slot} (hw : gx_W gx_tb gx_tb.length E s σ τ H locs) (hl : lv_has ls 3 [(0, .ref (E.2.2 + 199)), (1, .int x1), (2, .int x2)]) : W P9 l e9 (gx_rm 6) s m9 av.toArray below meth C9 H locs 0 0 (gq_Qv below av s E σ1 τ1) (F0 m9 13 ls []) := by
  have hx := S.1
  have hb := S.2.1
  unfold C_X12_goesOn_13 at h
  refine lv_iload_n hx hb dX12_goesOn_13 rfl (lv_at hl 2 rfl) ?_
  refine lv_iload_n hx hb dX12_goesOn_14 rfl (lv_at hl 1 rfl) ?_
  refine lv_icmp_ge (tgt := 32) hx hb dX12_goesOn_15 (by decide) (fun c_1 => ?_) (fun c_1 => ?_)
  · rw [if_pos c_1] at h
    obtain ⟨-, rfl, rfl⟩ := sm_inj h
    exact gx_rv (post := gq_v σ τ) S hr hlk hw dX12_goesOn_32 ⟨rfl, rfl⟩
  · rw [if_neg c_1] at h
    refine lv_aload_n hx hb dX12_goesOn_18 rfl (lv_at hl 0 rfl) ?_
    refine lv_aload_n hx hb dX12_goesOn_19 rfl (lv_at hl 0 rfl) ?_
    refine gx_getr (j := 207) S hK hw t_199 cl_13 11 (by decide) rfl mw_1425 rfl dX12_goesOn_20 ?_
    obtain ⟨u_2, σ_2, τ_2, q_2, h⟩ := bd_some h
    refine gx_cVv (As := [.ref (E.2.2 + 207)]) (rest := []) S hK gx_ok hw (c_X12_minuteGoes l (E := E) N 207 t_207 σ τ q_2) cw_X12_349 t_199 cl_13 ⟨Nat.le_of_ble_eq_true rfl, Nat.le_of_ble_eq_true rfl⟩ rfl hl.1 rfl (Nat.le_of_ble_eq_true rfl) ⟨Nat.le_of_ble_eq_true rfl, Nat.le_of_ble_eq_true rfl⟩ dX12_goesOn_23 (fun σ9 τ9 H locs hp hw => ?_)
    obtain ⟨rfl, rfl⟩ := hp
    refine lv_iinc (v := x2 + 1) (lv' := [(2, .int (x2 + 1)), (0, .ref (E.2.2 + 199)), (1, .int x1)]) hx hb dX12_goesOn_26 hl (k := 2) rfl rfl (by decide) rfl (fun ls hl => ?_)
    obtain ⟨v_3, e_3, h⟩ := nm_some h
    have hl : lv_has ls 3 [(2, .int v_3), (0, .ref (E.2.2 + 199)), (1, .int x1)] := by rw [e_3]; exact hl
    refine lv_goto (tgt := 13) hx hb dX12_goesOn_29 (by decide) ?_
    exact hrec_13 σ_2 τ_2 x1 v_3 _ _ _ _ _ _ h hw (lv_sub hl [1, 2, 0] rfl)
set_option maxHeartbeats 4000000 in
set_option maxRecDepth 100000 in
theorem h_X12_goesOn_13 (l : Launch) (S : CallFix P9 m9 C9 cX12_goesOn 3 s av.toArray gx_G RX12) (hr : meth.sig.returnType = none) (hlk : meth.locks = false) (hK : gx_K E s) (N : Nat) : ∀ (n : Nat) (σ : gI) (τ : gJ) (x1 : Int32) (x2 : Int32) (r : Unit) (σ1 : gI) (τ1 : gJ), H_X12_goesOn_13 N n σ τ x1 x2 = some (r, σ1, τ1) → ∀ (H : Heap) (locs : List Loc) (ls : Array Slot), gx_W gx_tb gx_tb.length E s σ τ H locs → lv_has ls 3 [(0, .ref (E.2.2 + 199)), (1, .int x1), (2, .int x2)] → W P9 l e9 (gx_rm 6) s m9 av.toArray below meth C9 H locs 0 0 (gq_Qv below av s E σ1 τ1) (F0 m9 13 ls []) := by
  intro n
  induction n with
  | zero => intro σ τ x1 x2 r σ1 τ1 h; cases h
  | succ n ih =>
    intro σ τ x1 x2 r σ1 τ1 h H locs ls hw hl
    exact k_X12_goesOn_13 l S hr hlk hK N (H_X12_goesOn_13 N n) (fun σ τ x1 x2 r σ1 τ1 H locs ls h hw hl => ih σ τ x1 x2 r σ1 τ1 h H locs ls hw hl) σ τ x1 x2 h hw hl
set_option maxHeartbeats 4000000 in
set_option maxRecDepth 100000 in
theorem b_X12_goesOn_0 (l : Launch) (S : CallFix P9 m9 C9 cX12_goesOn 3 s av.toArray gx_G RX12) (hr : meth.sig.returnType = none) (hlk : meth.locks = false) (hK : gx_K E s) (N : Nat) (σ : gI) (τ : gJ) (x1 : Int32) {r : Unit} {σ1 : gI} {τ1 : gJ} (h : B_X12_goesOn_0 N σ τ x1 = some (r, σ1, τ1)) {H : Heap} {locs : List Loc} {ls : Array Slot} (hw : gx_W gx_tb gx_tb.length E s σ τ H locs) (hl : lv_has ls 3 [(0, .ref (E.2.2 + 199)), (1, .int x1)]) : W P9 l e9 (gx_rm 6) s m9 av.toArray below meth C9 H locs 0 0 (gq_Qv below av s E σ1 τ1) (F0 m9 0 ls []) := by
  have hx := S.1
  have hb := S.2.1
  unfold B_X12_goesOn_0 at h
  refine lv_aload_n hx hb dX12_goesOn_0 rfl (lv_at hl 0 rfl) ?_
  refine gx_getr (j := 206) S hK hw t_199 cl_13 10 (by decide) rfl mw_1424 rfl dX12_goesOn_1 ?_
  refine lv_aload_n hx hb dX12_goesOn_4 rfl (lv_at hl 0 rfl) ?_
  refine gx_getr (j := 207) S hK hw t_199 cl_13 11 (by decide) rfl mw_1425 rfl dX12_goesOn_5 ?_
  obtain ⟨u_1, σ_1, τ_1, q_1, h⟩ := bd_some h
  refine gx_cSv (As := [.ref (E.2.2 + 206), .ref (E.2.2 + 207)]) (rest := []) S hK gx_ok hw (c_X12_puts l (E := E) N σ τ q_1) cw_X12_374 ⟨Nat.le_of_ble_eq_true rfl, Nat.le_of_ble_eq_true rfl⟩ rfl hl.1 rfl (Nat.le_of_ble_eq_true rfl) ⟨Nat.le_of_ble_eq_true rfl, Nat.le_of_ble_eq_true rfl⟩ dX12_goesOn_8 (fun σ9 τ9 H locs hp hw => ?_)
  obtain ⟨rfl, rfl⟩ := hp
  refine lv_iconst (v := 0) hx hb dX12_goesOn_11 (by decide) ?_
  refine lv_istore_n (lv' := [(2, .int 0), (0, .ref (E.2.2 + 199)), (1, .int x1)]) hx hb dX12_goesOn_12 rfl hl (by decide) rfl (fun ls hl => ?_)
  exact h_X12_goesOn_13 l S hr hlk hK N N σ_1 τ_1 x1 0 _ _ _ h _ _ _ hw (lv_sub hl [1, 2, 0] rfl)
set_option maxHeartbeats 4000000 in
set_option maxRecDepth 100000 in
theorem c_X12_goesOn (l : Launch) {E : gE} (N : Nat) (σ : gI) (τ : gJ) (x1 : Int32) {r : Unit} {σ1 : gI} {τ1 : gJ} (h : B_X12_goesOn_0 N σ τ x1 = some (r, σ1, τ1)) : gx_Mv l yX12_goesOn cX12_goesOn 3 none 6 gx_tb E σ τ [.ref (E.2.2 + 199), .int x1] (gq_v σ1 τ1) := by
  refine gx_bv (by decide +kernel) (Nat.le_of_ble_eq_true rfl) ?_
  intro P9 e9 s m9 below meth C9 S hr hlk hK hw ls hl
  have hl : lv_has ls 3 [(0, .ref (E.2.2 + 199)), (1, .int x1)] := hl
  exact b_X12_goesOn_0 l S hr hlk hK N σ τ x1 h hw hl
/-! X12_homes -/
def B_X12_homes_0 (N : Nat) (σ : gI) (τ : gJ) (x1 : Int32) : Option (Int32 × gI × gJ) := nm (up2 σ 199 0 0) fun σ_1 => bd (B_X12_in_0 N σ_1 τ x1.toInt64 0 300) fun r_2 σ_2 τ_2 => if r_2 = 0 then (some ((-1), σ_2, τ_2)) else (bd (B_X12_goesOn_0 N σ_2 τ_2 x1) fun _ σ_4 τ_4 => nm (up2 σ_4 199 1 0) fun σ_5 => bd (B_X12_thoseHow_0 N 207 σ_5 τ_4 2) fun r_6 σ_6 τ_6 => bd (B_X12_enters_0 N σ_6 τ_6 r_6.toInt64) fun _ σ_7 τ_7 => bd (B_X12_thoseHow_0 N 207 σ_7 τ_7 0) fun r_8 σ_8 τ_8 => bd (B_X12_enters_0 N σ_8 τ_8 r_8.toInt64) fun _ σ_9 τ_9 => bd (B_X12_thoseHow_0 N 207 σ_9 τ_9 1) fun r_10 σ_10 τ_10 => some (r_10, σ_10, τ_10))
set_option maxHeartbeats 4000000 in
set_option maxRecDepth 100000 in
theorem b_X12_homes_0 (l : Launch) (S : CallFix P9 m9 C9 cX12_homes 2 s av.toArray gx_G RX12) (hr : meth.sig.returnType = (some .int)) (hlk : meth.locks = false) (hK : gx_K E s) (N : Nat) (σ : gI) (τ : gJ) (x1 : Int32) {r : Int32} {σ1 : gI} {τ1 : gJ} (h : B_X12_homes_0 N σ τ x1 = some (r, σ1, τ1)) {H : Heap} {locs : List Loc} {ls : Array Slot} (hw : gx_W gx_tb gx_tb.length E s σ τ H locs) (hl : lv_has ls 2 [(0, .ref (E.2.2 + 199)), (1, .int x1)]) : W P9 l e9 (gx_rm 7) s m9 av.toArray below meth C9 H locs 0 0 (gq_Qi below av s E r σ1 τ1) (F0 m9 0 ls []) := by
  have hx := S.1
  have hb := S.2.1
  unfold B_X12_homes_0 at h
  refine lv_aload_n hx hb dX12_homes_0 rfl (lv_at hl 0 rfl) ?_
  refine lv_iconst (v := 0) hx hb dX12_homes_1 (by decide) ?_
  refine gx_put S hK gx_ok hw t_199 cl_13 0 (by decide) rfl mw_1414 rfl rfl (ty := .int) (v := 0) (by decide +kernel) rfl rfl dX12_homes_2 (fun H locs hw => ?_)
  obtain ⟨σ_1, e_1, h⟩ := nm_some h
  rw [← e_1] at hw
  refine lv_iload_n hx hb dX12_homes_5 rfl (lv_at hl 1 rfl) ?_
  refine lv_i2l (v := x1.toInt64) hx hb dX12_homes_6 rfl ?_
  refine lv_lconst (v := 0) hx hb dX12_homes_7 (by decide) ?_
  refine lv_ldc2 (v := 300) hx hb S.2.2.2.1 (S.2.2.2.2 _ mw_1923) dX12_homes_8 ?_
  obtain ⟨r_2, σ_2, τ_2, q_2, h⟩ := bd_some h
  refine gx_cSi (As := [.long x1.toInt64, .long 0, .long 300]) (rest := []) S hK gx_ok hw (c_X12_in l (E := E) N σ_1 τ x1.toInt64 0 300 q_2) cw_X12_129 ⟨Nat.le_of_ble_eq_true rfl, Nat.le_of_ble_eq_true rfl⟩ rfl hl.1 rfl (Nat.le_of_ble_eq_true rfl) ⟨Nat.le_of_ble_eq_true rfl, Nat.le_of_ble_eq_true rfl⟩ dX12_homes_11 (fun r9 σ9 τ9 H locs hp hw => ?_)
  obtain ⟨rfl, rfl, rfl⟩ := hp
  refine lv_if_ne (tgt := 19) hx hb dX12_homes_14 (by decide) (fun c_3 => ?_) (fun c_3 => ?_)
  · rw [if_neg c_3] at h
    refine lv_aload_n hx hb dX12_homes_19 rfl (lv_at hl 0 rfl) ?_
    refine lv_iload_n hx hb dX12_homes_20 rfl (lv_at hl 1 rfl) ?_
    obtain ⟨u_4, σ_4, τ_4, q_4, h⟩ := bd_some h
    refine gx_cVv (As := [.int x1]) (rest := []) S hK gx_ok hw (c_X12_goesOn l (E := E) N σ_2 τ_2 x1 q_4) cw_X12_380 t_199 cl_13 ⟨Nat.le_of_ble_eq_true rfl, Nat.le_of_ble_eq_true rfl⟩ rfl hl.1 rfl (Nat.le_of_ble_eq_true rfl) ⟨Nat.le_of_ble_eq_true rfl, Nat.le_of_ble_eq_true rfl⟩ dX12_homes_21 (fun σ9 τ9 H locs hp hw => ?_)
    obtain ⟨rfl, rfl⟩ := hp
    refine lv_aload_n hx hb dX12_homes_24 rfl (lv_at hl 0 rfl) ?_
    refine lv_iconst (v := 0) hx hb dX12_homes_25 (by decide) ?_
    refine gx_put S hK gx_ok hw t_199 cl_13 1 (by decide) rfl mw_1415 rfl rfl (ty := .int) (v := 0) (by decide +kernel) rfl rfl dX12_homes_26 (fun H locs hw => ?_)
    obtain ⟨σ_5, e_5, h⟩ := nm_some h
    rw [← e_5] at hw
    refine lv_aload_n hx hb dX12_homes_29 rfl (lv_at hl 0 rfl) ?_
    refine lv_aload_n hx hb dX12_homes_30 rfl (lv_at hl 0 rfl) ?_
    refine gx_getr (j := 207) S hK hw t_199 cl_13 11 (by decide) rfl mw_1425 rfl dX12_homes_31 ?_
    refine lv_iconst (v := 2) hx hb dX12_homes_34 (by decide) ?_
    obtain ⟨r_6, σ_6, τ_6, q_6, h⟩ := bd_some h
    refine gx_cSi (As := [.ref (E.2.2 + 207), .int 2]) (rest := [.ref (E.2.2 + 199)]) S hK gx_ok hw (c_X12_thoseHow l (E := E) N 207 t_207 σ_5 τ_4 2 q_6) cw_X12_346 ⟨Nat.le_of_ble_eq_true rfl, Nat.le_of_ble_eq_true rfl⟩ rfl hl.1 rfl (Nat.le_of_ble_eq_true rfl) ⟨Nat.le_of_ble_eq_true rfl, Nat.le_of_ble_eq_true rfl⟩ dX12_homes_35 (fun r9 σ9 τ9 H locs hp hw => ?_)
    obtain ⟨rfl, rfl, rfl⟩ := hp
    refine lv_i2l (v := r_6.toInt64) hx hb dX12_homes_38 rfl ?_
    obtain ⟨u_7, σ_7, τ_7, q_7, h⟩ := bd_some h
    refine gx_cVv (As := [.long r_6.toInt64]) (rest := []) S hK gx_ok hw (c_X12_enters l (E := E) N σ_6 τ_6 r_6.toInt64 q_7) cw_X12_122 t_199 cl_13 ⟨Nat.le_of_ble_eq_true rfl, Nat.le_of_ble_eq_true rfl⟩ rfl hl.1 rfl (Nat.le_of_ble_eq_true rfl) ⟨Nat.le_of_ble_eq_true rfl, Nat.le_of_ble_eq_true rfl⟩ dX12_homes_39 (fun σ9 τ9 H locs hp hw => ?_)
    obtain ⟨rfl, rfl⟩ := hp
    refine lv_aload_n hx hb dX12_homes_42 rfl (lv_at hl 0 rfl) ?_
    refine lv_aload_n hx hb dX12_homes_43 rfl (lv_at hl 0 rfl) ?_
    refine gx_getr (j := 207) S hK hw t_199 cl_13 11 (by decide) rfl mw_1425 rfl dX12_homes_44 ?_
    refine lv_iconst (v := 0) hx hb dX12_homes_47 (by decide) ?_
    obtain ⟨r_8, σ_8, τ_8, q_8, h⟩ := bd_some h
    refine gx_cSi (As := [.ref (E.2.2 + 207), .int 0]) (rest := [.ref (E.2.2 + 199)]) S hK gx_ok hw (c_X12_thoseHow l (E := E) N 207 t_207 σ_7 τ_7 0 q_8) cw_X12_346 ⟨Nat.le_of_ble_eq_true rfl, Nat.le_of_ble_eq_true rfl⟩ rfl hl.1 rfl (Nat.le_of_ble_eq_true rfl) ⟨Nat.le_of_ble_eq_true rfl, Nat.le_of_ble_eq_true rfl⟩ dX12_homes_48 (fun r9 σ9 τ9 H locs hp hw => ?_)
    obtain ⟨rfl, rfl, rfl⟩ := hp
    refine lv_i2l (v := r_8.toInt64) hx hb dX12_homes_51 rfl ?_
    obtain ⟨u_9, σ_9, τ_9, q_9, h⟩ := bd_some h
    refine gx_cVv (As := [.long r_8.toInt64]) (rest := []) S hK gx_ok hw (c_X12_enters l (E := E) N σ_8 τ_8 r_8.toInt64 q_9) cw_X12_122 t_199 cl_13 ⟨Nat.le_of_ble_eq_true rfl, Nat.le_of_ble_eq_true rfl⟩ rfl hl.1 rfl (Nat.le_of_ble_eq_true rfl) ⟨Nat.le_of_ble_eq_true rfl, Nat.le_of_ble_eq_true rfl⟩ dX12_homes_52 (fun σ9 τ9 H locs hp hw => ?_)
    obtain ⟨rfl, rfl⟩ := hp
    refine lv_aload_n hx hb dX12_homes_55 rfl (lv_at hl 0 rfl) ?_
    refine gx_getr (j := 207) S hK hw t_199 cl_13 11 (by decide) rfl mw_1425 rfl dX12_homes_56 ?_
    refine lv_iconst (v := 1) hx hb dX12_homes_59 (by decide) ?_
    obtain ⟨r_10, σ_10, τ_10, q_10, h⟩ := bd_some h
    refine gx_cSi (As := [.ref (E.2.2 + 207), .int 1]) (rest := []) S hK gx_ok hw (c_X12_thoseHow l (E := E) N 207 t_207 σ_9 τ_9 1 q_10) cw_X12_346 ⟨Nat.le_of_ble_eq_true rfl, Nat.le_of_ble_eq_true rfl⟩ rfl hl.1 rfl (Nat.le_of_ble_eq_true rfl) ⟨Nat.le_of_ble_eq_true rfl, Nat.le_of_ble_eq_true rfl⟩ dX12_homes_60 (fun r9 σ9 τ9 H locs hp hw => ?_)
    obtain ⟨rfl, rfl, rfl⟩ := hp
    obtain ⟨rfl, rfl, rfl⟩ := sm_inj h
    exact gx_ri (post := gq_p r_10 σ_10 τ_10) (v := r_10) S hr hlk hw rfl dX12_homes_63 ⟨rfl, rfl, rfl⟩
  · rw [if_pos c_3] at h
    refine lv_iconst (v := (-1)) hx hb dX12_homes_17 (by decide) ?_
    obtain ⟨rfl, rfl, rfl⟩ := sm_inj h
    exact gx_ri (post := gq_p (-1) σ_2 τ_2) (v := (-1)) S hr hlk hw rfl dX12_homes_18 ⟨rfl, rfl, rfl⟩
set_option maxHeartbeats 4000000 in
set_option maxRecDepth 100000 in
theorem c_X12_homes (l : Launch) {E : gE} (N : Nat) (σ : gI) (τ : gJ) (x1 : Int32) {r : Int32} {σ1 : gI} {τ1 : gJ} (h : B_X12_homes_0 N σ τ x1 = some (r, σ1, τ1)) : gx_Mi l yX12_homes cX12_homes 2 (some .int) 7 gx_tb E σ τ [.ref (E.2.2 + 199), .int x1] (gq_p r σ1 τ1) := by
  refine gx_bi (by decide +kernel) (Nat.le_of_ble_eq_true rfl) ?_
  intro P9 e9 s m9 below meth C9 S hr hlk hK hw ls hl
  have hl : lv_has ls 2 [(0, .ref (E.2.2 + 199)), (1, .int x1)] := hl
  exact b_X12_homes_0 l S hr hlk hK N σ τ x1 h hw hl
/-! X12_keep -/
def C_X12_keep_28 (N : Nat) (rec_28 : gI → gJ → Int32 → Int32 → Option (Int32 × gI × gJ)) (σ : gI) (τ : gJ) (x1 : Int32) (x2 : Int32) : Option (Int32 × gI × gJ) := if 45 ≤ x2 then (some (1, σ, τ)) else (ck x2 45 fun j_2 => ck ((45 * x1) + x2) 135 fun j_3 => nm (up2 σ 232 j_3 (σ 206 j_2)) fun σ_4 => nm (x2 + 1) fun v_5 => rec_28 σ_4 τ x1 v_5)
def H_X12_keep_28 (N : Nat) : Nat → gI → gJ → Int32 → Int32 → Option (Int32 × gI × gJ) := itn (fun rec_28 => C_X12_keep_28 N rec_28) (fun _ _ _ _ => none)
def B_X12_keep_0 (N : Nat) (σ : gI) (τ : gJ) (x1 : Int32) : Option (Int32 × gI × gJ) := nm (up2 σ 199 0 0) fun σ_1 => bd (B_X12_in_0 N σ_1 τ x1.toInt64 0 2) fun r_2 σ_2 τ_2 => if r_2 = 0 then (some (0, σ_2, τ_2)) else (ck x1 3 fun j_4 => nm (up2 σ_2 231 j_4 1) fun σ_5 => H_X12_keep_28 N N σ_5 τ_2 x1 0)
set_option maxHeartbeats 4000000 in
set_option maxRecDepth 100000 in
theorem k_X12_keep_28 (l : Launch) (S : CallFix P9 m9 C9 cX12_keep 3 s av.toArray gx_G RX12) (hr : meth.sig.returnType = (some .boolean)) (hlk : meth.locks = false) (hK : gx_K E s) (N : Nat) (rec_28 : gI → gJ → Int32 → Int32 → Option (Int32 × gI × gJ)) (hrec_28 : ∀ (σ : gI) (τ : gJ) (x1 : Int32) (x2 : Int32) (r : Int32) (σ1 : gI) (τ1 : gJ) (H : Heap) (locs : List Loc) (ls : Array Slot), rec_28 σ τ x1 x2 = some (r, σ1, τ1) → gx_W gx_tb gx_tb.length E s σ τ H locs → lv_has ls 3 [(0, .ref (E.2.2 + 199)), (1, .int x1), (2, .int x2)] → W P9 l e9 (gx_rm 1) s m9 av.toArray below meth C9 H locs 0 0 (gq_Qi below av s E r σ1 τ1) (F0 m9 28 ls [])) (σ : gI) (τ : gJ) (x1 : Int32) (x2 : Int32) {r : Int32} {σ1 : gI} {τ1 : gJ} (h : C_X12_keep_28 N rec_28 σ τ x1 x2 = some (r, σ1, τ1)) {H : Heap} {locs : List Loc} {ls : Array Slot} (hw : gx_W gx_tb gx_tb.length E s σ τ H locs) (hl : lv_has ls 3 [(0, .ref (E.2.2 + 199)), (1, .int x1), (2, .int x2)]) : W P9 l e9 (gx_rm 1) s m9 av.toArray below meth C9 H locs 0 0 (gq_Qi below av s E r σ1 τ1) (F0 m9 28 ls []) := by
  have hx := S.1
  have hb := S.2.1
  unfold C_X12_keep_28 at h
  refine lv_iload_n hx hb dX12_keep_28 rfl (lv_at hl 2 rfl) ?_
  refine lv_bipush (v := 45) hx hb dX12_keep_29 (by decide) ?_
  refine lv_icmp_ge (tgt := 57) hx hb dX12_keep_31 (by decide) (fun c_1 => ?_) (fun c_1 => ?_)
  · rw [if_pos c_1] at h
    refine lv_iconst (v := 1) hx hb dX12_keep_57 (by decide) ?_
    obtain ⟨rfl, rfl, rfl⟩ := sm_inj h
    exact gx_ri (post := gq_p 1 σ τ) (v := 1) S hr hlk hw rfl dX12_keep_58 ⟨rfl, rfl, rfl⟩
  · rw [if_neg c_1] at h
    refine lv_aload_n hx hb dX12_keep_34 rfl (lv_at hl 0 rfl) ?_
    refine gx_getr (j := 232) S hK hw t_199 cl_13 59 (by decide) rfl mw_1473 rfl dX12_keep_35 ?_
    refine lv_bipush (v := 45) hx hb dX12_keep_38 (by decide) ?_
    refine lv_iload_n hx hb dX12_keep_40 rfl (lv_at hl 1 rfl) ?_
    refine lv_imul hx hb dX12_keep_41 ?_
    refine lv_iload_n hx hb dX12_keep_42 rfl (lv_at hl 2 rfl) ?_
    refine lv_iadd hx hb dX12_keep_43 ?_
    refine lv_aload_n hx hb dX12_keep_44 rfl (lv_at hl 0 rfl) ?_
    refine gx_getr (j := 206) S hK hw t_199 cl_13 10 (by decide) rfl mw_1424 rfl dX12_keep_45 ?_
    refine lv_iload_n hx hb dX12_keep_48 rfl (lv_at hl 2 rfl) ?_
    obtain ⟨j_2, hj_2, hi_2, h⟩ := ck_some h
    refine gx_iald S hK hw t_206 j_2 hj_2 hi_2 dX12_keep_49 ?_
    obtain ⟨j_3, hj_3, hi_3, h⟩ := ck_some h
    refine gx_iast S hK gx_ok hw t_232 j_3 hj_3 hi_3 dX12_keep_50 (fun H locs hw => ?_)
    obtain ⟨σ_4, e_4, h⟩ := nm_some h
    rw [← e_4] at hw
    refine lv_iinc (v := x2 + 1) (lv' := [(2, .int (x2 + 1)), (0, .ref (E.2.2 + 199)), (1, .int x1)]) hx hb dX12_keep_51 hl (k := 2) rfl rfl (by decide) rfl (fun ls hl => ?_)
    obtain ⟨v_5, e_5, h⟩ := nm_some h
    have hl : lv_has ls 3 [(2, .int v_5), (0, .ref (E.2.2 + 199)), (1, .int x1)] := by rw [e_5]; exact hl
    refine lv_goto (tgt := 28) hx hb dX12_keep_54 (by decide) ?_
    exact hrec_28 σ_4 τ x1 v_5 _ _ _ _ _ _ h hw (lv_sub hl [1, 2, 0] rfl)
set_option maxHeartbeats 4000000 in
set_option maxRecDepth 100000 in
theorem h_X12_keep_28 (l : Launch) (S : CallFix P9 m9 C9 cX12_keep 3 s av.toArray gx_G RX12) (hr : meth.sig.returnType = (some .boolean)) (hlk : meth.locks = false) (hK : gx_K E s) (N : Nat) : ∀ (n : Nat) (σ : gI) (τ : gJ) (x1 : Int32) (x2 : Int32) (r : Int32) (σ1 : gI) (τ1 : gJ), H_X12_keep_28 N n σ τ x1 x2 = some (r, σ1, τ1) → ∀ (H : Heap) (locs : List Loc) (ls : Array Slot), gx_W gx_tb gx_tb.length E s σ τ H locs → lv_has ls 3 [(0, .ref (E.2.2 + 199)), (1, .int x1), (2, .int x2)] → W P9 l e9 (gx_rm 1) s m9 av.toArray below meth C9 H locs 0 0 (gq_Qi below av s E r σ1 τ1) (F0 m9 28 ls []) := by
  intro n
  induction n with
  | zero => intro σ τ x1 x2 r σ1 τ1 h; cases h
  | succ n ih =>
    intro σ τ x1 x2 r σ1 τ1 h H locs ls hw hl
    exact k_X12_keep_28 l S hr hlk hK N (H_X12_keep_28 N n) (fun σ τ x1 x2 r σ1 τ1 H locs ls h hw hl => ih σ τ x1 x2 r σ1 τ1 h H locs ls hw hl) σ τ x1 x2 h hw hl
set_option maxHeartbeats 4000000 in
set_option maxRecDepth 100000 in
theorem b_X12_keep_0 (l : Launch) (S : CallFix P9 m9 C9 cX12_keep 3 s av.toArray gx_G RX12) (hr : meth.sig.returnType = (some .boolean)) (hlk : meth.locks = false) (hK : gx_K E s) (N : Nat) (σ : gI) (τ : gJ) (x1 : Int32) {r : Int32} {σ1 : gI} {τ1 : gJ} (h : B_X12_keep_0 N σ τ x1 = some (r, σ1, τ1)) {H : Heap} {locs : List Loc} {ls : Array Slot} (hw : gx_W gx_tb gx_tb.length E s σ τ H locs) (hl : lv_has ls 3 [(0, .ref (E.2.2 + 199)), (1, .int x1)]) : W P9 l e9 (gx_rm 1) s m9 av.toArray below meth C9 H locs 0 0 (gq_Qi below av s E r σ1 τ1) (F0 m9 0 ls []) := by
  have hx := S.1
  have hb := S.2.1
  unfold B_X12_keep_0 at h
  refine lv_aload_n hx hb dX12_keep_0 rfl (lv_at hl 0 rfl) ?_
  refine lv_iconst (v := 0) hx hb dX12_keep_1 (by decide) ?_
  refine gx_put S hK gx_ok hw t_199 cl_13 0 (by decide) rfl mw_1414 rfl rfl (ty := .int) (v := 0) (by decide +kernel) rfl rfl dX12_keep_2 (fun H locs hw => ?_)
  obtain ⟨σ_1, e_1, h⟩ := nm_some h
  rw [← e_1] at hw
  refine lv_iload_n hx hb dX12_keep_5 rfl (lv_at hl 1 rfl) ?_
  refine lv_i2l (v := x1.toInt64) hx hb dX12_keep_6 rfl ?_
  refine lv_lconst (v := 0) hx hb dX12_keep_7 (by decide) ?_
  refine lv_ldc2 (v := 2) hx hb S.2.2.2.1 (S.2.2.2.2 _ mw_2090) dX12_keep_8 ?_
  obtain ⟨r_2, σ_2, τ_2, q_2, h⟩ := bd_some h
  refine gx_cSi (As := [.long x1.toInt64, .long 0, .long 2]) (rest := []) S hK gx_ok hw (c_X12_in l (E := E) N σ_1 τ x1.toInt64 0 2 q_2) cw_X12_129 ⟨Nat.le_of_ble_eq_true rfl, Nat.le_of_ble_eq_true rfl⟩ rfl hl.1 rfl (Nat.le_of_ble_eq_true rfl) ⟨Nat.le_of_ble_eq_true rfl, Nat.le_of_ble_eq_true rfl⟩ dX12_keep_11 (fun r9 σ9 τ9 H locs hp hw => ?_)
  obtain ⟨rfl, rfl, rfl⟩ := hp
  refine lv_if_ne (tgt := 19) hx hb dX12_keep_14 (by decide) (fun c_3 => ?_) (fun c_3 => ?_)
  · rw [if_neg c_3] at h
    refine lv_aload_n hx hb dX12_keep_19 rfl (lv_at hl 0 rfl) ?_
    refine gx_getr (j := 231) S hK hw t_199 cl_13 58 (by decide) rfl mw_1472 rfl dX12_keep_20 ?_
    refine lv_iload_n hx hb dX12_keep_23 rfl (lv_at hl 1 rfl) ?_
    refine lv_iconst (v := 1) hx hb dX12_keep_24 (by decide) ?_
    obtain ⟨j_4, hj_4, hi_4, h⟩ := ck_some h
    refine gx_zast S hK gx_ok hw t_231 j_4 hj_4 hi_4 (by decide) dX12_keep_25 (fun H locs hw => ?_)
    obtain ⟨σ_5, e_5, h⟩ := nm_some h
    rw [← e_5] at hw
    refine lv_iconst (v := 0) hx hb dX12_keep_26 (by decide) ?_
    refine lv_istore_n (lv' := [(2, .int 0), (0, .ref (E.2.2 + 199)), (1, .int x1)]) hx hb dX12_keep_27 rfl hl (by decide) rfl (fun ls hl => ?_)
    exact h_X12_keep_28 l S hr hlk hK N N σ_5 τ_2 x1 0 _ _ _ h _ _ _ hw (lv_sub hl [1, 2, 0] rfl)
  · rw [if_pos c_3] at h
    refine lv_iconst (v := 0) hx hb dX12_keep_17 (by decide) ?_
    obtain ⟨rfl, rfl, rfl⟩ := sm_inj h
    exact gx_ri (post := gq_p 0 σ_2 τ_2) (v := 0) S hr hlk hw rfl dX12_keep_18 ⟨rfl, rfl, rfl⟩
set_option maxHeartbeats 4000000 in
set_option maxRecDepth 100000 in
theorem c_X12_keep (l : Launch) {E : gE} (N : Nat) (σ : gI) (τ : gJ) (x1 : Int32) {r : Int32} {σ1 : gI} {τ1 : gJ} (h : B_X12_keep_0 N σ τ x1 = some (r, σ1, τ1)) : gx_Mi l yX12_keep cX12_keep 3 (some .boolean) 1 gx_tb E σ τ [.ref (E.2.2 + 199), .int x1] (gq_p r σ1 τ1) := by
  refine gx_bi (by decide +kernel) (Nat.le_of_ble_eq_true rfl) ?_
  intro P9 e9 s m9 below meth C9 S hr hlk hK hw ls hl
  have hl : lv_has ls 3 [(0, .ref (E.2.2 + 199)), (1, .int x1)] := hl
  exact b_X12_keep_0 l S hr hlk hK N σ τ x1 h hw hl
/-! X12_laysFits -/
def B_X12_laysFits_88 (N : Nat) (rec_9 : gI → gJ → Int32 → Int32 → Int32 → Option (Int32 × gI × gJ)) (σ : gI) (τ : gJ) (x1 : Int32) (x2 : Int32) (x3 : Int32) (x4 : Int32) : Option (Int32 × gI × gJ) := ck x3 4096 fun j_1 => cb x4 <| nm (up2 σ 229 j_1 x4) fun σ_3 => bd (B_X12_flag_0 N σ_3 τ x4) fun r_4 σ_4 τ_4 => nm (x2 + r_4) fun v_5 => nm (x3 + 1) fun v_6 => rec_9 σ_4 τ_4 x1 v_5 v_6
def C_X12_laysFits_32 (N : Nat) (rec_9 : gI → gJ → Int32 → Int32 → Int32 → Option (Int32 × gI × gJ)) (rec_32 : gI → gJ → Int32 → Int32 → Int32 → Int32 → Int32 → Option (Int32 × gI × gJ)) (σ : gI) (τ : gJ) (x1 : Int32) (x2 : Int32) (x3 : Int32) (x4 : Int32) (x5 : Int32) : Option (Int32 × gI × gJ) := if σ 199 52 ≤ x5 then (B_X12_laysFits_88 N rec_9 σ τ x1 x2 x3 x4) else (if x4 = 0 then (B_X12_laysFits_88 N rec_9 σ τ x1 x2 x3 x4) else (ck x5 10 fun j_3 => bd (B_X12_floatsTo_0 N σ τ (σ 226 j_3) (σ 227 j_3) x3) fun r_4 σ_4 τ_4 => if r_4 = σ_4 228 j_3 then (nm (x5 + 1) fun v_7 => rec_32 σ_4 τ_4 x1 x2 x3 1 v_7) else (nm (x5 + 1) fun v_6 => rec_32 σ_4 τ_4 x1 x2 x3 0 v_6)))
def H_X12_laysFits_32 (N : Nat) (rec_9 : gI → gJ → Int32 → Int32 → Int32 → Option (Int32 × gI × gJ)) : Nat → gI → gJ → Int32 → Int32 → Int32 → Int32 → Int32 → Option (Int32 × gI × gJ) := itn (fun rec_32 => C_X12_laysFits_32 N rec_9 rec_32) (fun _ _ _ _ _ _ _ => none)
def C_X12_laysFits_9 (N : Nat) (rec_9 : gI → gJ → Int32 → Int32 → Int32 → Option (Int32 × gI × gJ)) (σ : gI) (τ : gJ) (x1 : Int32) (x2 : Int32) (x3 : Int32) : Option (Int32 × gI × gJ) := if x1 < x3 then (some (x2, σ, τ)) else (if x3 &&& (x1 ^^^ (-1)) = 0 then (H_X12_laysFits_32 N rec_9 N σ τ x1 x2 x3 1 0) else (H_X12_laysFits_32 N rec_9 N σ τ x1 x2 x3 0 0))
def H_X12_laysFits_9 (N : Nat) : Nat → gI → gJ → Int32 → Int32 → Int32 → Option (Int32 × gI × gJ) := itn (fun rec_9 => C_X12_laysFits_9 N rec_9) (fun _ _ _ _ _ => none)
def B_X12_laysFits_0 (N : Nat) (σ : gI) (τ : gJ) : Option (Int32 × gI × gJ) := bd (B_X12_forks_0 N σ τ) fun r_1 σ_1 τ_1 => H_X12_laysFits_9 N N σ_1 τ_1 r_1 0 0
set_option maxHeartbeats 4000000 in
set_option maxRecDepth 100000 in
theorem b_X12_laysFits_88 (l : Launch) (S : CallFix P9 m9 C9 cX12_laysFits 6 s av.toArray gx_G RX12) (hr : meth.sig.returnType = (some .int)) (hlk : meth.locks = false) (hK : gx_K E s) (N : Nat) (rec_9 : gI → gJ → Int32 → Int32 → Int32 → Option (Int32 × gI × gJ)) (hrec_9 : ∀ (σ : gI) (τ : gJ) (x1 : Int32) (x2 : Int32) (x3 : Int32) (r : Int32) (σ1 : gI) (τ1 : gJ) (H : Heap) (locs : List Loc) (ls : Array Slot), rec_9 σ τ x1 x2 x3 = some (r, σ1, τ1) → gx_W gx_tb gx_tb.length E s σ τ H locs → lv_has ls 6 [(0, .ref (E.2.2 + 199)), (1, .int x1), (2, .int x2), (3, .int x3)] → W P9 l e9 (gx_rm 9) s m9 av.toArray below meth C9 H locs 0 0 (gq_Qi below av s E r σ1 τ1) (F0 m9 9 ls [])) (σ : gI) (τ : gJ) (x1 : Int32) (x2 : Int32) (x3 : Int32) (x4 : Int32) {r : Int32} {σ1 : gI} {τ1 : gJ} (h : B_X12_laysFits_88 N rec_9 σ τ x1 x2 x3 x4 = some (r, σ1, τ1)) {H : Heap} {locs : List Loc} {ls : Array Slot} (hw : gx_W gx_tb gx_tb.length E s σ τ H locs) (hl : lv_has ls 6 [(0, .ref (E.2.2 + 199)), (1, .int x1), (2, .int x2), (3, .int x3), (4, .int x4)]) : W P9 l e9 (gx_rm 9) s m9 av.toArray below meth C9 H locs 0 0 (gq_Qi below av s E r σ1 τ1) (F0 m9 88 ls []) := by
  have hx := S.1
  have hb := S.2.1
  unfold B_X12_laysFits_88 at h
  refine lv_aload_n hx hb dX12_laysFits_88 rfl (lv_at hl 0 rfl) ?_
  refine gx_getr (j := 229) S hK hw t_199 cl_13 56 (by decide) rfl mw_1470 rfl dX12_laysFits_89 ?_
  refine lv_iload_n hx hb dX12_laysFits_92 rfl (lv_at hl 3 rfl) ?_
  refine lv_iload hx hb dX12_laysFits_93 (lv_at hl 4 rfl) ?_
  obtain ⟨j_1, hj_1, hi_1, h⟩ := ck_some h
  obtain ⟨hq_2, h⟩ := cb_some h
  refine gx_zast S hK gx_ok hw t_229 j_1 hj_1 hi_1 (cb_vp hq_2) dX12_laysFits_95 (fun H locs hw => ?_)
  obtain ⟨σ_3, e_3, h⟩ := nm_some h
  rw [← e_3] at hw
  refine lv_iload_n hx hb dX12_laysFits_96 rfl (lv_at hl 2 rfl) ?_
  refine lv_iload hx hb dX12_laysFits_97 (lv_at hl 4 rfl) ?_
  obtain ⟨r_4, σ_4, τ_4, q_4, h⟩ := bd_some h
  refine gx_cSi (As := [.int x4]) (rest := [.int x2]) S hK gx_ok hw (c_X12_flag l (E := E) N σ_3 τ x4 q_4) cw_X12_155 ⟨Nat.le_of_ble_eq_true rfl, Nat.le_of_ble_eq_true rfl⟩ rfl hl.1 rfl (Nat.le_of_ble_eq_true rfl) ⟨Nat.le_of_ble_eq_true rfl, Nat.le_of_ble_eq_true rfl⟩ dX12_laysFits_99 (fun r9 σ9 τ9 H locs hp hw => ?_)
  obtain ⟨rfl, rfl, rfl⟩ := hp
  refine lv_iadd hx hb dX12_laysFits_102 ?_
  refine lv_istore_n (lv' := [(2, .int (x2 + r_4)), (0, .ref (E.2.2 + 199)), (1, .int x1), (3, .int x3), (4, .int x4)]) hx hb dX12_laysFits_103 rfl hl (by decide) rfl (fun ls hl => ?_)
  obtain ⟨v_5, e_5, h⟩ := nm_some h
  have hl : lv_has ls 6 [(2, .int v_5), (0, .ref (E.2.2 + 199)), (1, .int x1), (3, .int x3), (4, .int x4)] := by rw [e_5]; exact hl
  refine lv_iinc (v := x3 + 1) (lv' := [(3, .int (x3 + 1)), (2, .int v_5), (0, .ref (E.2.2 + 199)), (1, .int x1), (4, .int x4)]) hx hb dX12_laysFits_104 hl (k := 3) rfl rfl (by decide) rfl (fun ls hl => ?_)
  obtain ⟨v_6, e_6, h⟩ := nm_some h
  have hl : lv_has ls 6 [(3, .int v_6), (2, .int v_5), (0, .ref (E.2.2 + 199)), (1, .int x1), (4, .int x4)] := by rw [e_6]; exact hl
  refine lv_goto (tgt := 9) hx hb dX12_laysFits_107 (by decide) ?_
  exact hrec_9 σ_4 τ_4 x1 v_5 v_6 _ _ _ _ _ _ h hw (lv_sub hl [2, 3, 1, 0] rfl)
set_option maxHeartbeats 4000000 in
set_option maxRecDepth 100000 in
theorem k_X12_laysFits_32 (l : Launch) (S : CallFix P9 m9 C9 cX12_laysFits 6 s av.toArray gx_G RX12) (hr : meth.sig.returnType = (some .int)) (hlk : meth.locks = false) (hK : gx_K E s) (N : Nat) (rec_9 : gI → gJ → Int32 → Int32 → Int32 → Option (Int32 × gI × gJ)) (hrec_9 : ∀ (σ : gI) (τ : gJ) (x1 : Int32) (x2 : Int32) (x3 : Int32) (r : Int32) (σ1 : gI) (τ1 : gJ) (H : Heap) (locs : List Loc) (ls : Array Slot), rec_9 σ τ x1 x2 x3 = some (r, σ1, τ1) → gx_W gx_tb gx_tb.length E s σ τ H locs → lv_has ls 6 [(0, .ref (E.2.2 + 199)), (1, .int x1), (2, .int x2), (3, .int x3)] → W P9 l e9 (gx_rm 9) s m9 av.toArray below meth C9 H locs 0 0 (gq_Qi below av s E r σ1 τ1) (F0 m9 9 ls [])) (rec_32 : gI → gJ → Int32 → Int32 → Int32 → Int32 → Int32 → Option (Int32 × gI × gJ)) (hrec_32 : ∀ (σ : gI) (τ : gJ) (x1 : Int32) (x2 : Int32) (x3 : Int32) (x4 : Int32) (x5 : Int32) (r : Int32) (σ1 : gI) (τ1 : gJ) (H : Heap) (locs : List Loc) (ls : Array Slot), rec_32 σ τ x1 x2 x3 x4 x5 = some (r, σ1, τ1) → gx_W gx_tb gx_tb.length E s σ τ H locs → lv_has ls 6 [(0, .ref (E.2.2 + 199)), (1, .int x1), (2, .int x2), (3, .int x3), (4, .int x4), (5, .int x5)] → W P9 l e9 (gx_rm 9) s m9 av.toArray below meth C9 H locs 0 0 (gq_Qi below av s E r σ1 τ1) (F0 m9 32 ls [])) (σ : gI) (τ : gJ) (x1 : Int32) (x2 : Int32) (x3 : Int32) (x4 : Int32) (x5 : Int32) {r : Int32} {σ1 : gI} {τ1 : gJ} (h : C_X12_laysFits_32 N rec_9 rec_32 σ τ x1 x2 x3 x4 x5 = some (r, σ1, τ1)) {H : Heap} {locs : List Loc} {ls : Array Slot} (hw : gx_W gx_tb gx_tb.length E s σ τ H locs) (hl : lv_has ls 6 [(0, .ref (E.2.2 + 199)), (1, .int x1), (2, .int x2), (3, .int x3), (4, .int x4), (5, .int x5)]) : W P9 l e9 (gx_rm 9) s m9 av.toArray below meth C9 H locs 0 0 (gq_Qi below av s E r σ1 τ1) (F0 m9 32 ls []) := by
  have hx := S.1
  have hb := S.2.1
  unfold C_X12_laysFits_32 at h
  refine lv_iload hx hb dX12_laysFits_32 (lv_at hl 5 rfl) ?_
  refine lv_aload_n hx hb dX12_laysFits_34 rfl (lv_at hl 0 rfl) ?_
  refine gx_get S hK hw t_199 cl_13 52 (by decide) rfl mw_1466 rfl dX12_laysFits_35 ?_
  refine lv_icmp_ge (tgt := 88) hx hb dX12_laysFits_38 (by decide) (fun c_1 => ?_) (fun c_1 => ?_)
  · rw [if_pos c_1] at h
    exact b_X12_laysFits_88 l S hr hlk hK N rec_9 hrec_9 σ τ x1 x2 x3 x4 h hw (lv_sub hl [0, 1, 2, 3, 4] rfl)
  · rw [if_neg c_1] at h
    refine lv_iload hx hb dX12_laysFits_41 (lv_at hl 4 rfl) ?_
    refine lv_if_eq (tgt := 88) hx hb dX12_laysFits_43 (by decide) (fun c_2 => ?_) (fun c_2 => ?_)
    · rw [if_pos c_2] at h
      exact b_X12_laysFits_88 l S hr hlk hK N rec_9 hrec_9 σ τ x1 x2 x3 x4 h hw (lv_sub hl [0, 1, 2, 3, 4] rfl)
    · rw [if_neg c_2] at h
      refine lv_aload_n hx hb dX12_laysFits_46 rfl (lv_at hl 0 rfl) ?_
      refine lv_aload_n hx hb dX12_laysFits_47 rfl (lv_at hl 0 rfl) ?_
      refine gx_getr (j := 226) S hK hw t_199 cl_13 53 (by decide) rfl mw_1467 rfl dX12_laysFits_48 ?_
      refine lv_iload hx hb dX12_laysFits_51 (lv_at hl 5 rfl) ?_
      obtain ⟨j_3, hj_3, hi_3, h⟩ := ck_some h
      refine gx_iald S hK hw t_226 j_3 hj_3 hi_3 dX12_laysFits_53 ?_
      refine lv_aload_n hx hb dX12_laysFits_54 rfl (lv_at hl 0 rfl) ?_
      refine gx_getr (j := 227) S hK hw t_199 cl_13 54 (by decide) rfl mw_1468 rfl dX12_laysFits_55 ?_
      refine lv_iload hx hb dX12_laysFits_58 (lv_at hl 5 rfl) ?_
      refine gx_iald S hK hw t_227 j_3 hj_3 hi_3 dX12_laysFits_60 ?_
      refine lv_iload_n hx hb dX12_laysFits_61 rfl (lv_at hl 3 rfl) ?_
      obtain ⟨r_4, σ_4, τ_4, q_4, h⟩ := bd_some h
      refine gx_cVi (As := [.int (σ 226 j_3), .int (σ 227 j_3), .int x3]) (rest := []) S hK gx_ok hw (c_X12_floatsTo l (E := E) N σ τ (σ 226 j_3) (σ 227 j_3) x3 q_4) cw_X12_445 t_199 cl_13 ⟨Nat.le_of_ble_eq_true rfl, Nat.le_of_ble_eq_true rfl⟩ rfl hl.1 rfl (Nat.le_of_ble_eq_true rfl) ⟨Nat.le_of_ble_eq_true rfl, Nat.le_of_ble_eq_true rfl⟩ dX12_laysFits_62 (fun r9 σ9 τ9 H locs hp hw => ?_)
      obtain ⟨rfl, rfl, rfl⟩ := hp
      refine lv_aload_n hx hb dX12_laysFits_65 rfl (lv_at hl 0 rfl) ?_
      refine gx_getr (j := 228) S hK hw t_199 cl_13 55 (by decide) rfl mw_1469 rfl dX12_laysFits_66 ?_
      refine lv_iload hx hb dX12_laysFits_69 (lv_at hl 5 rfl) ?_
      refine gx_iald S hK hw t_228 j_3 hj_3 hi_3 dX12_laysFits_71 ?_
      refine lv_icmp_ne (tgt := 79) hx hb dX12_laysFits_72 (by decide) (fun c_5 => ?_) (fun c_5 => ?_)
      · rw [if_neg c_5] at h
        refine lv_iconst (v := 0) hx hb dX12_laysFits_79 (by decide) ?_
        refine lv_istore (lv' := [(4, .int 0), (0, .ref (E.2.2 + 199)), (1, .int x1), (2, .int x2), (3, .int x3), (5, .int x5)]) hx hb dX12_laysFits_80 hl (by decide) rfl (fun ls hl => ?_)
        refine lv_iinc (v := x5 + 1) (lv' := [(5, .int (x5 + 1)), (4, .int 0), (0, .ref (E.2.2 + 199)), (1, .int x1), (2, .int x2), (3, .int x3)]) hx hb dX12_laysFits_82 hl (k := 5) rfl rfl (by decide) rfl (fun ls hl => ?_)
        obtain ⟨v_6, e_6, h⟩ := nm_some h
        have hl : lv_has ls 6 [(5, .int v_6), (4, .int 0), (0, .ref (E.2.2 + 199)), (1, .int x1), (2, .int x2), (3, .int x3)] := by rw [e_6]; exact hl
        refine lv_goto (tgt := 32) hx hb dX12_laysFits_85 (by decide) ?_
        exact hrec_32 σ_4 τ_4 x1 x2 x3 0 v_6 _ _ _ _ _ _ h hw (lv_sub hl [2, 3, 4, 5, 1, 0] rfl)
      · rw [if_pos c_5] at h
        refine lv_iconst (v := 1) hx hb dX12_laysFits_75 (by decide) ?_
        refine lv_goto (tgt := 80) hx hb dX12_laysFits_76 (by decide) ?_
        refine lv_istore (lv' := [(4, .int 1), (0, .ref (E.2.2 + 199)), (1, .int x1), (2, .int x2), (3, .int x3), (5, .int x5)]) hx hb dX12_laysFits_80 hl (by decide) rfl (fun ls hl => ?_)
        refine lv_iinc (v := x5 + 1) (lv' := [(5, .int (x5 + 1)), (4, .int 1), (0, .ref (E.2.2 + 199)), (1, .int x1), (2, .int x2), (3, .int x3)]) hx hb dX12_laysFits_82 hl (k := 5) rfl rfl (by decide) rfl (fun ls hl => ?_)
        obtain ⟨v_7, e_7, h⟩ := nm_some h
        have hl : lv_has ls 6 [(5, .int v_7), (4, .int 1), (0, .ref (E.2.2 + 199)), (1, .int x1), (2, .int x2), (3, .int x3)] := by rw [e_7]; exact hl
        refine lv_goto (tgt := 32) hx hb dX12_laysFits_85 (by decide) ?_
        exact hrec_32 σ_4 τ_4 x1 x2 x3 1 v_7 _ _ _ _ _ _ h hw (lv_sub hl [2, 3, 4, 5, 1, 0] rfl)
set_option maxHeartbeats 4000000 in
set_option maxRecDepth 100000 in
theorem h_X12_laysFits_32 (l : Launch) (S : CallFix P9 m9 C9 cX12_laysFits 6 s av.toArray gx_G RX12) (hr : meth.sig.returnType = (some .int)) (hlk : meth.locks = false) (hK : gx_K E s) (N : Nat) (rec_9 : gI → gJ → Int32 → Int32 → Int32 → Option (Int32 × gI × gJ)) (hrec_9 : ∀ (σ : gI) (τ : gJ) (x1 : Int32) (x2 : Int32) (x3 : Int32) (r : Int32) (σ1 : gI) (τ1 : gJ) (H : Heap) (locs : List Loc) (ls : Array Slot), rec_9 σ τ x1 x2 x3 = some (r, σ1, τ1) → gx_W gx_tb gx_tb.length E s σ τ H locs → lv_has ls 6 [(0, .ref (E.2.2 + 199)), (1, .int x1), (2, .int x2), (3, .int x3)] → W P9 l e9 (gx_rm 9) s m9 av.toArray below meth C9 H locs 0 0 (gq_Qi below av s E r σ1 τ1) (F0 m9 9 ls [])) : ∀ (n : Nat) (σ : gI) (τ : gJ) (x1 : Int32) (x2 : Int32) (x3 : Int32) (x4 : Int32) (x5 : Int32) (r : Int32) (σ1 : gI) (τ1 : gJ), H_X12_laysFits_32 N rec_9 n σ τ x1 x2 x3 x4 x5 = some (r, σ1, τ1) → ∀ (H : Heap) (locs : List Loc) (ls : Array Slot), gx_W gx_tb gx_tb.length E s σ τ H locs → lv_has ls 6 [(0, .ref (E.2.2 + 199)), (1, .int x1), (2, .int x2), (3, .int x3), (4, .int x4), (5, .int x5)] → W P9 l e9 (gx_rm 9) s m9 av.toArray below meth C9 H locs 0 0 (gq_Qi below av s E r σ1 τ1) (F0 m9 32 ls []) := by
  intro n
  induction n with
  | zero => intro σ τ x1 x2 x3 x4 x5 r σ1 τ1 h; cases h
  | succ n ih =>
    intro σ τ x1 x2 x3 x4 x5 r σ1 τ1 h H locs ls hw hl
    exact k_X12_laysFits_32 l S hr hlk hK N rec_9 hrec_9 (H_X12_laysFits_32 N rec_9 n) (fun σ τ x1 x2 x3 x4 x5 r σ1 τ1 H locs ls h hw hl => ih σ τ x1 x2 x3 x4 x5 r σ1 τ1 h H locs ls hw hl) σ τ x1 x2 x3 x4 x5 h hw hl
set_option maxHeartbeats 4000000 in
set_option maxRecDepth 100000 in
theorem k_X12_laysFits_9 (l : Launch) (S : CallFix P9 m9 C9 cX12_laysFits 6 s av.toArray gx_G RX12) (hr : meth.sig.returnType = (some .int)) (hlk : meth.locks = false) (hK : gx_K E s) (N : Nat) (rec_9 : gI → gJ → Int32 → Int32 → Int32 → Option (Int32 × gI × gJ)) (hrec_9 : ∀ (σ : gI) (τ : gJ) (x1 : Int32) (x2 : Int32) (x3 : Int32) (r : Int32) (σ1 : gI) (τ1 : gJ) (H : Heap) (locs : List Loc) (ls : Array Slot), rec_9 σ τ x1 x2 x3 = some (r, σ1, τ1) → gx_W gx_tb gx_tb.length E s σ τ H locs → lv_has ls 6 [(0, .ref (E.2.2 + 199)), (1, .int x1), (2, .int x2), (3, .int x3)] → W P9 l e9 (gx_rm 9) s m9 av.toArray below meth C9 H locs 0 0 (gq_Qi below av s E r σ1 τ1) (F0 m9 9 ls [])) (σ : gI) (τ : gJ) (x1 : Int32) (x2 : Int32) (x3 : Int32) {r : Int32} {σ1 : gI} {τ1 : gJ} (h : C_X12_laysFits_9 N rec_9 σ τ x1 x2 x3 = some (r, σ1, τ1)) {H : Heap} {locs : List Loc} {ls : Array Slot} (hw : gx_W gx_tb gx_tb.length E s σ τ H locs) (hl : lv_has ls 6 [(0, .ref (E.2.2 + 199)), (1, .int x1), (2, .int x2), (3, .int x3)]) : W P9 l e9 (gx_rm 9) s m9 av.toArray below meth C9 H locs 0 0 (gq_Qi below av s E r σ1 τ1) (F0 m9 9 ls []) := by
  have hx := S.1
  have hb := S.2.1
  unfold C_X12_laysFits_9 at h
  refine lv_iload_n hx hb dX12_laysFits_9 rfl (lv_at hl 3 rfl) ?_
  refine lv_iload_n hx hb dX12_laysFits_10 rfl (lv_at hl 1 rfl) ?_
  refine lv_icmp_gt (tgt := 110) hx hb dX12_laysFits_11 (by decide) (fun c_1 => ?_) (fun c_1 => ?_)
  · rw [if_pos c_1] at h
    refine lv_iload_n hx hb dX12_laysFits_110 rfl (lv_at hl 2 rfl) ?_
    obtain ⟨rfl, rfl, rfl⟩ := sm_inj h
    exact gx_ri (post := gq_p x2 σ τ) (v := x2) S hr hlk hw rfl dX12_laysFits_111 ⟨rfl, rfl, rfl⟩
  · rw [if_neg c_1] at h
    refine lv_iload_n hx hb dX12_laysFits_14 rfl (lv_at hl 3 rfl) ?_
    refine lv_iload_n hx hb dX12_laysFits_15 rfl (lv_at hl 1 rfl) ?_
    refine lv_iconst (v := (-1)) hx hb dX12_laysFits_16 (by decide) ?_
    refine lv_ixor hx hb dX12_laysFits_17 ?_
    refine lv_iand hx hb dX12_laysFits_18 ?_
    refine lv_if_ne (tgt := 26) hx hb dX12_laysFits_19 (by decide) (fun c_2 => ?_) (fun c_2 => ?_)
    · rw [if_neg c_2] at h
      refine lv_iconst (v := 0) hx hb dX12_laysFits_26 (by decide) ?_
      refine lv_istore (lv' := [(4, .int 0), (0, .ref (E.2.2 + 199)), (1, .int x1), (2, .int x2), (3, .int x3)]) hx hb dX12_laysFits_27 hl (by decide) rfl (fun ls hl => ?_)
      refine lv_iconst (v := 0) hx hb dX12_laysFits_29 (by decide) ?_
      refine lv_istore (lv' := [(5, .int 0), (4, .int 0), (0, .ref (E.2.2 + 199)), (1, .int x1), (2, .int x2), (3, .int x3)]) hx hb dX12_laysFits_30 hl (by decide) rfl (fun ls hl => ?_)
      exact h_X12_laysFits_32 l S hr hlk hK N rec_9 hrec_9 N σ τ x1 x2 x3 0 0 _ _ _ h _ _ _ hw (lv_sub hl [2, 3, 4, 5, 1, 0] rfl)
    · rw [if_pos c_2] at h
      refine lv_iconst (v := 1) hx hb dX12_laysFits_22 (by decide) ?_
      refine lv_goto (tgt := 27) hx hb dX12_laysFits_23 (by decide) ?_
      refine lv_istore (lv' := [(4, .int 1), (0, .ref (E.2.2 + 199)), (1, .int x1), (2, .int x2), (3, .int x3)]) hx hb dX12_laysFits_27 hl (by decide) rfl (fun ls hl => ?_)
      refine lv_iconst (v := 0) hx hb dX12_laysFits_29 (by decide) ?_
      refine lv_istore (lv' := [(5, .int 0), (4, .int 1), (0, .ref (E.2.2 + 199)), (1, .int x1), (2, .int x2), (3, .int x3)]) hx hb dX12_laysFits_30 hl (by decide) rfl (fun ls hl => ?_)
      exact h_X12_laysFits_32 l S hr hlk hK N rec_9 hrec_9 N σ τ x1 x2 x3 1 0 _ _ _ h _ _ _ hw (lv_sub hl [2, 3, 4, 5, 1, 0] rfl)
set_option maxHeartbeats 4000000 in
set_option maxRecDepth 100000 in
theorem h_X12_laysFits_9 (l : Launch) (S : CallFix P9 m9 C9 cX12_laysFits 6 s av.toArray gx_G RX12) (hr : meth.sig.returnType = (some .int)) (hlk : meth.locks = false) (hK : gx_K E s) (N : Nat) : ∀ (n : Nat) (σ : gI) (τ : gJ) (x1 : Int32) (x2 : Int32) (x3 : Int32) (r : Int32) (σ1 : gI) (τ1 : gJ), H_X12_laysFits_9 N n σ τ x1 x2 x3 = some (r, σ1, τ1) → ∀ (H : Heap) (locs : List Loc) (ls : Array Slot), gx_W gx_tb gx_tb.length E s σ τ H locs → lv_has ls 6 [(0, .ref (E.2.2 + 199)), (1, .int x1), (2, .int x2), (3, .int x3)] → W P9 l e9 (gx_rm 9) s m9 av.toArray below meth C9 H locs 0 0 (gq_Qi below av s E r σ1 τ1) (F0 m9 9 ls []) := by
  intro n
  induction n with
  | zero => intro σ τ x1 x2 x3 r σ1 τ1 h; cases h
  | succ n ih =>
    intro σ τ x1 x2 x3 r σ1 τ1 h H locs ls hw hl
    exact k_X12_laysFits_9 l S hr hlk hK N (H_X12_laysFits_9 N n) (fun σ τ x1 x2 x3 r σ1 τ1 H locs ls h hw hl => ih σ τ x1 x2 x3 r σ1 τ1 h H locs ls hw hl) σ τ x1 x2 x3 h hw hl
set_option maxHeartbeats 4000000 in
set_option maxRecDepth 100000 in
theorem b_X12_laysFits_0 (l : Launch) (S : CallFix P9 m9 C9 cX12_laysFits 6 s av.toArray gx_G RX12) (hr : meth.sig.returnType = (some .int)) (hlk : meth.locks = false) (hK : gx_K E s) (N : Nat) (σ : gI) (τ : gJ) {r : Int32} {σ1 : gI} {τ1 : gJ} (h : B_X12_laysFits_0 N σ τ = some (r, σ1, τ1)) {H : Heap} {locs : List Loc} {ls : Array Slot} (hw : gx_W gx_tb gx_tb.length E s σ τ H locs) (hl : lv_has ls 6 [(0, .ref (E.2.2 + 199))]) : W P9 l e9 (gx_rm 9) s m9 av.toArray below meth C9 H locs 0 0 (gq_Qi below av s E r σ1 τ1) (F0 m9 0 ls []) := by
  have hx := S.1
  have hb := S.2.1
  unfold B_X12_laysFits_0 at h
  refine lv_aload_n hx hb dX12_laysFits_0 rfl (lv_at hl 0 rfl) ?_
  obtain ⟨r_1, σ_1, τ_1, q_1, h⟩ := bd_some h
  refine gx_cVi (As := []) (rest := []) S hK gx_ok hw (c_X12_forks l (E := E) N σ τ q_1) cw_X12_416 t_199 cl_13 ⟨Nat.le_of_ble_eq_true rfl, Nat.le_of_ble_eq_true rfl⟩ rfl hl.1 rfl (Nat.le_of_ble_eq_true rfl) ⟨Nat.le_of_ble_eq_true rfl, Nat.le_of_ble_eq_true rfl⟩ dX12_laysFits_1 (fun r9 σ9 τ9 H locs hp hw => ?_)
  obtain ⟨rfl, rfl, rfl⟩ := hp
  refine lv_istore_n (lv' := [(1, .int r_1), (0, .ref (E.2.2 + 199))]) hx hb dX12_laysFits_4 rfl hl (by decide) rfl (fun ls hl => ?_)
  refine lv_iconst (v := 0) hx hb dX12_laysFits_5 (by decide) ?_
  refine lv_istore_n (lv' := [(2, .int 0), (1, .int r_1), (0, .ref (E.2.2 + 199))]) hx hb dX12_laysFits_6 rfl hl (by decide) rfl (fun ls hl => ?_)
  refine lv_iconst (v := 0) hx hb dX12_laysFits_7 (by decide) ?_
  refine lv_istore_n (lv' := [(3, .int 0), (2, .int 0), (1, .int r_1), (0, .ref (E.2.2 + 199))]) hx hb dX12_laysFits_8 rfl hl (by decide) rfl (fun ls hl => ?_)
  exact h_X12_laysFits_9 l S hr hlk hK N N σ_1 τ_1 r_1 0 0 _ _ _ h _ _ _ hw (lv_sub hl [3, 2, 1, 0] rfl)
set_option maxHeartbeats 4000000 in
set_option maxRecDepth 100000 in
theorem c_X12_laysFits (l : Launch) {E : gE} (N : Nat) (σ : gI) (τ : gJ) {r : Int32} {σ1 : gI} {τ1 : gJ} (h : B_X12_laysFits_0 N σ τ = some (r, σ1, τ1)) : gx_Mi l yX12_laysFits cX12_laysFits 6 (some .int) 9 gx_tb E σ τ [.ref (E.2.2 + 199)] (gq_p r σ1 τ1) := by
  refine gx_bi (by decide +kernel) (Nat.le_of_ble_eq_true rfl) ?_
  intro P9 e9 s m9 below meth C9 S hr hlk hK hw ls hl
  have hl : lv_has ls 6 [(0, .ref (E.2.2 + 199))] := hl
  exact b_X12_laysFits_0 l S hr hlk hK N σ τ h hw hl
/-! J6_numberOfTrailingZeros_0f7a4 -/
def B_J6_numberOfTrailingZeros_0f7a4_49 (N : Nat) (σ : gI) (τ : gJ) (x0 : Int32) (x1 : Int32) : Option (Int32 × gI × gJ) := if x0 ≤ 16 then (if x0 ≤ 4 then (some (x1 + (ius x0 1), σ, τ)) else (nm (x1 + 2) fun v_3 => nm (ius x0 2) fun v_4 => some (v_3 + (ius v_4 1), σ, τ))) else (nm (x1 + 4) fun v_5 => nm (ius x0 4) fun v_6 => if v_6 ≤ 4 then (some (v_5 + (ius v_6 1), σ, τ)) else (nm (v_5 + 2) fun v_8 => nm (ius v_6 2) fun v_9 => some (v_8 + (ius v_9 1), σ, τ)))
def B_J6_numberOfTrailingZeros_0f7a4_0 (N : Nat) (σ : gI) (τ : gJ) (x0 : Int32) : Option (Int32 × gI × gJ) := nm ((x0 ^^^ (-1)) &&& (x0 - 1)) fun v_1 => if 0 < v_1 then (if v_1 ≤ 65536 then (if v_1 ≤ 256 then (B_J6_numberOfTrailingZeros_0f7a4_49 N σ τ v_1 1) else (nm (ius v_1 8) fun v_5 => B_J6_numberOfTrailingZeros_0f7a4_49 N σ τ v_5 9)) else (nm (ius v_1 16) fun v_6 => if v_6 ≤ 256 then (B_J6_numberOfTrailingZeros_0f7a4_49 N σ τ v_6 17) else (nm (ius v_6 8) fun v_8 => B_J6_numberOfTrailingZeros_0f7a4_49 N σ τ v_8 25))) else (some (v_1 &&& 32, σ, τ))
set_option maxHeartbeats 4000000 in
set_option maxRecDepth 100000 in
theorem b_J6_numberOfTrailingZeros_0f7a4_49 (l : Launch) (S : CallFix P9 m9 C9 cJ6_numberOfTrailingZeros_0f7a4 2 s av.toArray gx_G RJ6) (hr : meth.sig.returnType = (some .int)) (hlk : meth.locks = false) (hK : gx_K E s) (N : Nat) (σ : gI) (τ : gJ) (x0 : Int32) (x1 : Int32) {r : Int32} {σ1 : gI} {τ1 : gJ} (h : B_J6_numberOfTrailingZeros_0f7a4_49 N σ τ x0 x1 = some (r, σ1, τ1)) {H : Heap} {locs : List Loc} {ls : Array Slot} (hw : gx_W gx_tb gx_tb.length E s σ τ H locs) (hl : lv_has ls 2 [(0, .int x0), (1, .int x1)]) : W P9 l e9 (gx_rm 0) s m9 av.toArray below meth C9 H locs 0 0 (gq_Qi below av s E r σ1 τ1) (F0 m9 49 ls []) := by
  have hx := S.1
  have hb := S.2.1
  unfold B_J6_numberOfTrailingZeros_0f7a4_49 at h
  refine lv_iload_n hx hb dJ6_numberOfTrailingZeros_0f7a4_49 rfl (lv_at hl 0 rfl) ?_
  refine lv_bipush (v := 16) hx hb dJ6_numberOfTrailingZeros_0f7a4_50 (by decide) ?_
  refine lv_icmp_le (tgt := 62) hx hb dJ6_numberOfTrailingZeros_0f7a4_52 (by decide) (fun c_1 => ?_) (fun c_1 => ?_)
  · rw [if_pos c_1] at h
    refine lv_iload_n hx hb dJ6_numberOfTrailingZeros_0f7a4_62 rfl (lv_at hl 0 rfl) ?_
    refine lv_iconst (v := 4) hx hb dJ6_numberOfTrailingZeros_0f7a4_63 (by decide) ?_
    refine lv_icmp_le (tgt := 74) hx hb dJ6_numberOfTrailingZeros_0f7a4_64 (by decide) (fun c_2 => ?_) (fun c_2 => ?_)
    · rw [if_pos c_2] at h
      refine lv_iload_n hx hb dJ6_numberOfTrailingZeros_0f7a4_74 rfl (lv_at hl 1 rfl) ?_
      refine lv_iload_n hx hb dJ6_numberOfTrailingZeros_0f7a4_75 rfl (lv_at hl 0 rfl) ?_
      refine lv_iconst (v := 1) hx hb dJ6_numberOfTrailingZeros_0f7a4_76 (by decide) ?_
      refine lv_iushr (v := ius x0 1) hx hb dJ6_numberOfTrailingZeros_0f7a4_77 rfl ?_
      refine lv_iadd hx hb dJ6_numberOfTrailingZeros_0f7a4_78 ?_
      obtain ⟨rfl, rfl, rfl⟩ := sm_inj h
      exact gx_ri (post := gq_p (x1 + (ius x0 1)) σ τ) (v := x1 + (ius x0 1)) S hr hlk hw rfl dJ6_numberOfTrailingZeros_0f7a4_79 ⟨rfl, rfl, rfl⟩
    · rw [if_neg c_2] at h
      refine lv_iinc (v := x1 + 2) (lv' := [(1, .int (x1 + 2)), (0, .int x0)]) hx hb dJ6_numberOfTrailingZeros_0f7a4_67 hl (k := 1) rfl rfl (by decide) rfl (fun ls hl => ?_)
      obtain ⟨v_3, e_3, h⟩ := nm_some h
      have hl : lv_has ls 2 [(1, .int v_3), (0, .int x0)] := by rw [e_3]; exact hl
      refine lv_iload_n hx hb dJ6_numberOfTrailingZeros_0f7a4_70 rfl (lv_at hl 1 rfl) ?_
      refine lv_iconst (v := 2) hx hb dJ6_numberOfTrailingZeros_0f7a4_71 (by decide) ?_
      refine lv_iushr (v := ius x0 2) hx hb dJ6_numberOfTrailingZeros_0f7a4_72 rfl ?_
      refine lv_istore_n (lv' := [(0, .int (ius x0 2)), (1, .int v_3)]) hx hb dJ6_numberOfTrailingZeros_0f7a4_73 rfl hl (by decide) rfl (fun ls hl => ?_)
      obtain ⟨v_4, e_4, h⟩ := nm_some h
      have hl : lv_has ls 2 [(0, .int v_4), (1, .int v_3)] := by rw [e_4]; exact hl
      refine lv_iload_n hx hb dJ6_numberOfTrailingZeros_0f7a4_74 rfl (lv_at hl 1 rfl) ?_
      refine lv_iload_n hx hb dJ6_numberOfTrailingZeros_0f7a4_75 rfl (lv_at hl 0 rfl) ?_
      refine lv_iconst (v := 1) hx hb dJ6_numberOfTrailingZeros_0f7a4_76 (by decide) ?_
      refine lv_iushr (v := ius v_4 1) hx hb dJ6_numberOfTrailingZeros_0f7a4_77 rfl ?_
      refine lv_iadd hx hb dJ6_numberOfTrailingZeros_0f7a4_78 ?_
      obtain ⟨rfl, rfl, rfl⟩ := sm_inj h
      exact gx_ri (post := gq_p (v_3 + (ius v_4 1)) σ τ) (v := v_3 + (ius v_4 1)) S hr hlk hw rfl dJ6_numberOfTrailingZeros_0f7a4_79 ⟨rfl, rfl, rfl⟩
  · rw [if_neg c_1] at h
    refine lv_iinc (v := x1 + 4) (lv' := [(1, .int (x1 + 4)), (0, .int x0)]) hx hb dJ6_numberOfTrailingZeros_0f7a4_55 hl (k := 1) rfl rfl (by decide) rfl (fun ls hl => ?_)
    obtain ⟨v_5, e_5, h⟩ := nm_some h
    have hl : lv_has ls 2 [(1, .int v_5), (0, .int x0)] := by rw [e_5]; exact hl
    refine lv_iload_n hx hb dJ6_numberOfTrailingZeros_0f7a4_58 rfl (lv_at hl 1 rfl) ?_
    refine lv_iconst (v := 4) hx hb dJ6_numberOfTrailingZeros_0f7a4_59 (by decide) ?_
    refine lv_iushr (v := ius x0 4) hx hb dJ6_numberOfTrailingZeros_0f7a4_60 rfl ?_
    refine lv_istore_n (lv' := [(0, .int (ius x0 4)), (1, .int v_5)]) hx hb dJ6_numberOfTrailingZeros_0f7a4_61 rfl hl (by decide) rfl (fun ls hl => ?_)
    obtain ⟨v_6, e_6, h⟩ := nm_some h
    have hl : lv_has ls 2 [(0, .int v_6), (1, .int v_5)] := by rw [e_6]; exact hl
    refine lv_iload_n hx hb dJ6_numberOfTrailingZeros_0f7a4_62 rfl (lv_at hl 0 rfl) ?_
    refine lv_iconst (v := 4) hx hb dJ6_numberOfTrailingZeros_0f7a4_63 (by decide) ?_
    refine lv_icmp_le (tgt := 74) hx hb dJ6_numberOfTrailingZeros_0f7a4_64 (by decide) (fun c_7 => ?_) (fun c_7 => ?_)
    · rw [if_pos c_7] at h
      refine lv_iload_n hx hb dJ6_numberOfTrailingZeros_0f7a4_74 rfl (lv_at hl 1 rfl) ?_
      refine lv_iload_n hx hb dJ6_numberOfTrailingZeros_0f7a4_75 rfl (lv_at hl 0 rfl) ?_
      refine lv_iconst (v := 1) hx hb dJ6_numberOfTrailingZeros_0f7a4_76 (by decide) ?_
      refine lv_iushr (v := ius v_6 1) hx hb dJ6_numberOfTrailingZeros_0f7a4_77 rfl ?_
      refine lv_iadd hx hb dJ6_numberOfTrailingZeros_0f7a4_78 ?_
      obtain ⟨rfl, rfl, rfl⟩ := sm_inj h
      exact gx_ri (post := gq_p (v_5 + (ius v_6 1)) σ τ) (v := v_5 + (ius v_6 1)) S hr hlk hw rfl dJ6_numberOfTrailingZeros_0f7a4_79 ⟨rfl, rfl, rfl⟩
    · rw [if_neg c_7] at h
      refine lv_iinc (v := v_5 + 2) (lv' := [(1, .int (v_5 + 2)), (0, .int v_6)]) hx hb dJ6_numberOfTrailingZeros_0f7a4_67 hl (k := 1) rfl rfl (by decide) rfl (fun ls hl => ?_)
      obtain ⟨v_8, e_8, h⟩ := nm_some h
      have hl : lv_has ls 2 [(1, .int v_8), (0, .int v_6)] := by rw [e_8]; exact hl
      refine lv_iload_n hx hb dJ6_numberOfTrailingZeros_0f7a4_70 rfl (lv_at hl 1 rfl) ?_
      refine lv_iconst (v := 2) hx hb dJ6_numberOfTrailingZeros_0f7a4_71 (by decide) ?_
      refine lv_iushr (v := ius v_6 2) hx hb dJ6_numberOfTrailingZeros_0f7a4_72 rfl ?_
      refine lv_istore_n (lv' := [(0, .int (ius v_6 2)), (1, .int v_8)]) hx hb dJ6_numberOfTrailingZeros_0f7a4_73 rfl hl (by decide) rfl (fun ls hl => ?_)
      obtain ⟨v_9, e_9, h⟩ := nm_some h
      have hl : lv_has ls 2 [(0, .int v_9), (1, .int v_8)] := by rw [e_9]; exact hl
      refine lv_iload_n hx hb dJ6_numberOfTrailingZeros_0f7a4_74 rfl (lv_at hl 1 rfl) ?_
      refine lv_iload_n hx hb dJ6_numberOfTrailingZeros_0f7a4_75 rfl (lv_at hl 0 rfl) ?_
      refine lv_iconst (v := 1) hx hb dJ6_numberOfTrailingZeros_0f7a4_76 (by decide) ?_
      refine lv_iushr (v := ius v_9 1) hx hb dJ6_numberOfTrailingZeros_0f7a4_77 rfl ?_
      refine lv_iadd hx hb dJ6_numberOfTrailingZeros_0f7a4_78 ?_
      obtain ⟨rfl, rfl, rfl⟩ := sm_inj h
      exact gx_ri (post := gq_p (v_8 + (ius v_9 1)) σ τ) (v := v_8 + (ius v_9 1)) S hr hlk hw rfl dJ6_numberOfTrailingZeros_0f7a4_79 ⟨rfl, rfl, rfl⟩
set_option maxHeartbeats 4000000 in
set_option maxRecDepth 100000 in
theorem b_J6_numberOfTrailingZeros_0f7a4_0 (l : Launch) (S : CallFix P9 m9 C9 cJ6_numberOfTrailingZeros_0f7a4 2 s av.toArray gx_G RJ6) (hr : meth.sig.returnType = (some .int)) (hlk : meth.locks = false) (hK : gx_K E s) (N : Nat) (σ : gI) (τ : gJ) (x0 : Int32) {r : Int32} {σ1 : gI} {τ1 : gJ} (h : B_J6_numberOfTrailingZeros_0f7a4_0 N σ τ x0 = some (r, σ1, τ1)) {H : Heap} {locs : List Loc} {ls : Array Slot} (hw : gx_W gx_tb gx_tb.length E s σ τ H locs) (hl : lv_has ls 2 [(0, .int x0)]) : W P9 l e9 (gx_rm 0) s m9 av.toArray below meth C9 H locs 0 0 (gq_Qi below av s E r σ1 τ1) (F0 m9 0 ls []) := by
  have hx := S.1
  have hb := S.2.1
  unfold B_J6_numberOfTrailingZeros_0f7a4_0 at h
  refine lv_iload_n hx hb dJ6_numberOfTrailingZeros_0f7a4_0 rfl (lv_at hl 0 rfl) ?_
  refine lv_iconst (v := (-1)) hx hb dJ6_numberOfTrailingZeros_0f7a4_1 (by decide) ?_
  refine lv_ixor hx hb dJ6_numberOfTrailingZeros_0f7a4_2 ?_
  refine lv_iload_n hx hb dJ6_numberOfTrailingZeros_0f7a4_3 rfl (lv_at hl 0 rfl) ?_
  refine lv_iconst (v := 1) hx hb dJ6_numberOfTrailingZeros_0f7a4_4 (by decide) ?_
  refine lv_isub hx hb dJ6_numberOfTrailingZeros_0f7a4_5 ?_
  refine lv_iand hx hb dJ6_numberOfTrailingZeros_0f7a4_6 ?_
  refine lv_istore_n (lv' := [(0, .int ((x0 ^^^ (-1)) &&& (x0 - 1)))]) hx hb dJ6_numberOfTrailingZeros_0f7a4_7 rfl hl (by decide) rfl (fun ls hl => ?_)
  obtain ⟨v_1, e_1, h⟩ := nm_some h
  have hl : lv_has ls 2 [(0, .int v_1)] := by rw [e_1]; exact hl
  refine lv_iload_n hx hb dJ6_numberOfTrailingZeros_0f7a4_8 rfl (lv_at hl 0 rfl) ?_
  refine lv_if_gt (tgt := 17) hx hb dJ6_numberOfTrailingZeros_0f7a4_9 (by decide) (fun c_2 => ?_) (fun c_2 => ?_)
  · rw [if_pos c_2] at h
    refine lv_iconst (v := 1) hx hb dJ6_numberOfTrailingZeros_0f7a4_17 (by decide) ?_
    refine lv_istore_n (lv' := [(1, .int 1), (0, .int v_1)]) hx hb dJ6_numberOfTrailingZeros_0f7a4_18 rfl hl (by decide) rfl (fun ls hl => ?_)
    refine lv_iload_n hx hb dJ6_numberOfTrailingZeros_0f7a4_19 rfl (lv_at hl 1 rfl) ?_
    refine lv_ldcw (v := 65536) hx hb S.2.2.2.1 (S.2.2.2.2 _ mw_1946) dJ6_numberOfTrailingZeros_0f7a4_20 ?_
    refine lv_icmp_le (tgt := 34) hx hb dJ6_numberOfTrailingZeros_0f7a4_23 (by decide) (fun c_3 => ?_) (fun c_3 => ?_)
    · rw [if_pos c_3] at h
      refine lv_iload_n hx hb dJ6_numberOfTrailingZeros_0f7a4_34 rfl (lv_at hl 1 rfl) ?_
      refine lv_sipush (v := 256) hx hb dJ6_numberOfTrailingZeros_0f7a4_35 (by decide) ?_
      refine lv_icmp_le (tgt := 49) hx hb dJ6_numberOfTrailingZeros_0f7a4_38 (by decide) (fun c_4 => ?_) (fun c_4 => ?_)
      · rw [if_pos c_4] at h
        exact b_J6_numberOfTrailingZeros_0f7a4_49 l S hr hlk hK N σ τ v_1 1 h hw (lv_sub hl [1, 0] rfl)
      · rw [if_neg c_4] at h
        refine lv_iinc (v := 9) (lv' := [(1, .int 9), (0, .int v_1)]) hx hb dJ6_numberOfTrailingZeros_0f7a4_41 hl (k := 0) rfl (by decide) (by decide) rfl (fun ls hl => ?_)
        refine lv_iload_n hx hb dJ6_numberOfTrailingZeros_0f7a4_44 rfl (lv_at hl 1 rfl) ?_
        refine lv_bipush (v := 8) hx hb dJ6_numberOfTrailingZeros_0f7a4_45 (by decide) ?_
        refine lv_iushr (v := ius v_1 8) hx hb dJ6_numberOfTrailingZeros_0f7a4_47 rfl ?_
        refine lv_istore_n (lv' := [(0, .int (ius v_1 8)), (1, .int 9)]) hx hb dJ6_numberOfTrailingZeros_0f7a4_48 rfl hl (by decide) rfl (fun ls hl => ?_)
        obtain ⟨v_5, e_5, h⟩ := nm_some h
        have hl : lv_has ls 2 [(0, .int v_5), (1, .int 9)] := by rw [e_5]; exact hl
        exact b_J6_numberOfTrailingZeros_0f7a4_49 l S hr hlk hK N σ τ v_5 9 h hw (lv_sub hl [0, 1] rfl)
    · rw [if_neg c_3] at h
      refine lv_iinc (v := 17) (lv' := [(1, .int 17), (0, .int v_1)]) hx hb dJ6_numberOfTrailingZeros_0f7a4_26 hl (k := 0) rfl (by decide) (by decide) rfl (fun ls hl => ?_)
      refine lv_iload_n hx hb dJ6_numberOfTrailingZeros_0f7a4_29 rfl (lv_at hl 1 rfl) ?_
      refine lv_bipush (v := 16) hx hb dJ6_numberOfTrailingZeros_0f7a4_30 (by decide) ?_
      refine lv_iushr (v := ius v_1 16) hx hb dJ6_numberOfTrailingZeros_0f7a4_32 rfl ?_
      refine lv_istore_n (lv' := [(0, .int (ius v_1 16)), (1, .int 17)]) hx hb dJ6_numberOfTrailingZeros_0f7a4_33 rfl hl (by decide) rfl (fun ls hl => ?_)
      obtain ⟨v_6, e_6, h⟩ := nm_some h
      have hl : lv_has ls 2 [(0, .int v_6), (1, .int 17)] := by rw [e_6]; exact hl
      refine lv_iload_n hx hb dJ6_numberOfTrailingZeros_0f7a4_34 rfl (lv_at hl 0 rfl) ?_
      refine lv_sipush (v := 256) hx hb dJ6_numberOfTrailingZeros_0f7a4_35 (by decide) ?_
      refine lv_icmp_le (tgt := 49) hx hb dJ6_numberOfTrailingZeros_0f7a4_38 (by decide) (fun c_7 => ?_) (fun c_7 => ?_)
      · rw [if_pos c_7] at h
        exact b_J6_numberOfTrailingZeros_0f7a4_49 l S hr hlk hK N σ τ v_6 17 h hw (lv_sub hl [0, 1] rfl)
      · rw [if_neg c_7] at h
        refine lv_iinc (v := 25) (lv' := [(1, .int 25), (0, .int v_6)]) hx hb dJ6_numberOfTrailingZeros_0f7a4_41 hl (k := 1) rfl (by decide) (by decide) rfl (fun ls hl => ?_)
        refine lv_iload_n hx hb dJ6_numberOfTrailingZeros_0f7a4_44 rfl (lv_at hl 1 rfl) ?_
        refine lv_bipush (v := 8) hx hb dJ6_numberOfTrailingZeros_0f7a4_45 (by decide) ?_
        refine lv_iushr (v := ius v_6 8) hx hb dJ6_numberOfTrailingZeros_0f7a4_47 rfl ?_
        refine lv_istore_n (lv' := [(0, .int (ius v_6 8)), (1, .int 25)]) hx hb dJ6_numberOfTrailingZeros_0f7a4_48 rfl hl (by decide) rfl (fun ls hl => ?_)
        obtain ⟨v_8, e_8, h⟩ := nm_some h
        have hl : lv_has ls 2 [(0, .int v_8), (1, .int 25)] := by rw [e_8]; exact hl
        exact b_J6_numberOfTrailingZeros_0f7a4_49 l S hr hlk hK N σ τ v_8 25 h hw (lv_sub hl [0, 1] rfl)
  · rw [if_neg c_2] at h
    refine lv_iload_n hx hb dJ6_numberOfTrailingZeros_0f7a4_12 rfl (lv_at hl 0 rfl) ?_
    refine lv_bipush (v := 32) hx hb dJ6_numberOfTrailingZeros_0f7a4_13 (by decide) ?_
    refine lv_iand hx hb dJ6_numberOfTrailingZeros_0f7a4_15 ?_
    obtain ⟨rfl, rfl, rfl⟩ := sm_inj h
    exact gx_ri (post := gq_p (v_1 &&& 32) σ τ) (v := v_1 &&& 32) S hr hlk hw rfl dJ6_numberOfTrailingZeros_0f7a4_16 ⟨rfl, rfl, rfl⟩
set_option maxHeartbeats 4000000 in
set_option maxRecDepth 100000 in
theorem c_J6_numberOfTrailingZeros_0f7a4 (l : Launch) {E : gE} (N : Nat) (σ : gI) (τ : gJ) (x0 : Int32) {r : Int32} {σ1 : gI} {τ1 : gJ} (h : B_J6_numberOfTrailingZeros_0f7a4_0 N σ τ x0 = some (r, σ1, τ1)) : gx_Mi l yJ6_numberOfTrailingZeros_0f7a4 cJ6_numberOfTrailingZeros_0f7a4 2 (some .int) 0 gx_tb E σ τ [.int x0] (gq_p r σ1 τ1) := by
  refine gx_bi (by decide +kernel) (Nat.le_of_ble_eq_true rfl) ?_
  intro P9 e9 s m9 below meth C9 S hr hlk hK hw ls hl
  have hl : lv_has ls 2 [(0, .int x0)] := hl
  exact b_J6_numberOfTrailingZeros_0f7a4_0 l S hr hlk hK N σ τ x0 h hw hl
/-! X12_lost -/
def C_X12_lost_41 (N : Nat) (rec_41 : gI → gJ → Int32 → Int32 → Int32 → Option (Int32 × gI × gJ)) (σ : gI) (τ : gJ) (x1 : Int32) (x2 : Int32) (x3 : Int32) : Option (Int32 × gI × gJ) := if x1 < x3 then (some ((-2), σ, τ)) else (bd (B_X12_minuteGoes_0 N 207 σ τ) fun _ σ_2 τ_2 => bd (B_X12_thoseHow_0 N 207 σ_2 τ_2 2) fun r_3 σ_3 τ_3 => nm (r_3 &&& (x2 ^^^ (-1))) fun v_4 => if v_4 = 0 then (nm (x3 + 1) fun v_6 => rec_41 σ_3 τ_3 x1 x2 v_6) else (bd (B_J6_numberOfTrailingZeros_0f7a4_0 N σ_3 τ_3 v_4) fun r_7 σ_7 τ_7 => nm (up2 σ_7 199 1 0) fun σ_8 => bd (B_X12_enters_0 N σ_8 τ_7 x3.toInt64) fun _ σ_9 τ_9 => ck ((7 * r_7) + 0) 45 fun j_10 => bd (B_X12_enters_0 N σ_9 τ_9 ((σ_9 207 j_10).toInt64)) fun _ σ_11 τ_11 => some (r_7, σ_11, τ_11)))
def H_X12_lost_41 (N : Nat) : Nat → gI → gJ → Int32 → Int32 → Int32 → Option (Int32 × gI × gJ) := itn (fun rec_41 => C_X12_lost_41 N rec_41) (fun _ _ _ _ _ => none)
def B_X12_lost_0 (N : Nat) (σ : gI) (τ : gJ) (x1 : Int32) : Option (Int32 × gI × gJ) := nm (up2 σ 199 0 0) fun σ_1 => bd (B_X12_in_0 N σ_1 τ x1.toInt64 0 300) fun r_2 σ_2 τ_2 => if r_2 = 0 then (some ((-1), σ_2, τ_2)) else (bd (B_X12_puts_0 N σ_2 τ_2) fun _ σ_4 τ_4 => bd (B_X12_thoseHow_0 N 207 σ_4 τ_4 2) fun r_5 σ_5 τ_5 => H_X12_lost_41 N N σ_5 τ_5 x1 r_5 1)
set_option maxHeartbeats 4000000 in
set_option maxRecDepth 100000 in
theorem k_X12_lost_41 (l : Launch) (S : CallFix P9 m9 C9 cX12_lost 6 s av.toArray gx_G RX12) (hr : meth.sig.returnType = (some .int)) (hlk : meth.locks = false) (hK : gx_K E s) (N : Nat) (rec_41 : gI → gJ → Int32 → Int32 → Int32 → Option (Int32 × gI × gJ)) (hrec_41 : ∀ (σ : gI) (τ : gJ) (x1 : Int32) (x2 : Int32) (x3 : Int32) (r : Int32) (σ1 : gI) (τ1 : gJ) (H : Heap) (locs : List Loc) (ls : Array Slot), rec_41 σ τ x1 x2 x3 = some (r, σ1, τ1) → gx_W gx_tb gx_tb.length E s σ τ H locs → lv_has ls 6 [(0, .ref (E.2.2 + 199)), (1, .int x1), (2, .int x2), (3, .int x3)] → W P9 l e9 (gx_rm 6) s m9 av.toArray below meth C9 H locs 0 0 (gq_Qi below av s E r σ1 τ1) (F0 m9 41 ls [])) (σ : gI) (τ : gJ) (x1 : Int32) (x2 : Int32) (x3 : Int32) {r : Int32} {σ1 : gI} {τ1 : gJ} (h : C_X12_lost_41 N rec_41 σ τ x1 x2 x3 = some (r, σ1, τ1)) {H : Heap} {locs : List Loc} {ls : Array Slot} (hw : gx_W gx_tb gx_tb.length E s σ τ H locs) (hl : lv_has ls 6 [(0, .ref (E.2.2 + 199)), (1, .int x1), (2, .int x2), (3, .int x3)]) : W P9 l e9 (gx_rm 6) s m9 av.toArray below meth C9 H locs 0 0 (gq_Qi below av s E r σ1 τ1) (F0 m9 41 ls []) := by
  have hx := S.1
  have hb := S.2.1
  unfold C_X12_lost_41 at h
  refine lv_iload_n hx hb dX12_lost_41 rfl (lv_at hl 3 rfl) ?_
  refine lv_iload_n hx hb dX12_lost_42 rfl (lv_at hl 1 rfl) ?_
  refine lv_icmp_gt (tgt := 117) hx hb dX12_lost_43 (by decide) (fun c_1 => ?_) (fun c_1 => ?_)
  · rw [if_pos c_1] at h
    refine lv_bipush (v := (-2)) hx hb dX12_lost_117 (by decide) ?_
    obtain ⟨rfl, rfl, rfl⟩ := sm_inj h
    exact gx_ri (post := gq_p (-2) σ τ) (v := (-2)) S hr hlk hw rfl dX12_lost_119 ⟨rfl, rfl, rfl⟩
  · rw [if_neg c_1] at h
    refine lv_aload_n hx hb dX12_lost_46 rfl (lv_at hl 0 rfl) ?_
    refine lv_aload_n hx hb dX12_lost_47 rfl (lv_at hl 0 rfl) ?_
    refine gx_getr (j := 207) S hK hw t_199 cl_13 11 (by decide) rfl mw_1425 rfl dX12_lost_48 ?_
    obtain ⟨u_2, σ_2, τ_2, q_2, h⟩ := bd_some h
    refine gx_cVv (As := [.ref (E.2.2 + 207)]) (rest := []) S hK gx_ok hw (c_X12_minuteGoes l (E := E) N 207 t_207 σ τ q_2) cw_X12_349 t_199 cl_13 ⟨Nat.le_of_ble_eq_true rfl, Nat.le_of_ble_eq_true rfl⟩ rfl hl.1 rfl (Nat.le_of_ble_eq_true rfl) ⟨Nat.le_of_ble_eq_true rfl, Nat.le_of_ble_eq_true rfl⟩ dX12_lost_51 (fun σ9 τ9 H locs hp hw => ?_)
    obtain ⟨rfl, rfl⟩ := hp
    refine lv_aload_n hx hb dX12_lost_54 rfl (lv_at hl 0 rfl) ?_
    refine gx_getr (j := 207) S hK hw t_199 cl_13 11 (by decide) rfl mw_1425 rfl dX12_lost_55 ?_
    refine lv_iconst (v := 2) hx hb dX12_lost_58 (by decide) ?_
    obtain ⟨r_3, σ_3, τ_3, q_3, h⟩ := bd_some h
    refine gx_cSi (As := [.ref (E.2.2 + 207), .int 2]) (rest := []) S hK gx_ok hw (c_X12_thoseHow l (E := E) N 207 t_207 σ_2 τ_2 2 q_3) cw_X12_346 ⟨Nat.le_of_ble_eq_true rfl, Nat.le_of_ble_eq_true rfl⟩ rfl hl.1 rfl (Nat.le_of_ble_eq_true rfl) ⟨Nat.le_of_ble_eq_true rfl, Nat.le_of_ble_eq_true rfl⟩ dX12_lost_59 (fun r9 σ9 τ9 H locs hp hw => ?_)
    obtain ⟨rfl, rfl, rfl⟩ := hp
    refine lv_iload_n hx hb dX12_lost_62 rfl (lv_at hl 2 rfl) ?_
    refine lv_iconst (v := (-1)) hx hb dX12_lost_63 (by decide) ?_
    refine lv_ixor hx hb dX12_lost_64 ?_
    refine lv_iand hx hb dX12_lost_65 ?_
    refine lv_istore (lv' := [(4, .int (r_3 &&& (x2 ^^^ (-1)))), (0, .ref (E.2.2 + 199)), (1, .int x1), (2, .int x2), (3, .int x3)]) hx hb dX12_lost_66 hl (by decide) rfl (fun ls hl => ?_)
    obtain ⟨v_4, e_4, h⟩ := nm_some h
    have hl : lv_has ls 6 [(4, .int v_4), (0, .ref (E.2.2 + 199)), (1, .int x1), (2, .int x2), (3, .int x3)] := by rw [e_4]; exact hl
    refine lv_iload hx hb dX12_lost_68 (lv_at hl 0 rfl) ?_
    refine lv_if_eq (tgt := 111) hx hb dX12_lost_70 (by decide) (fun c_5 => ?_) (fun c_5 => ?_)
    · rw [if_pos c_5] at h
      refine lv_iinc (v := x3 + 1) (lv' := [(3, .int (x3 + 1)), (4, .int v_4), (0, .ref (E.2.2 + 199)), (1, .int x1), (2, .int x2)]) hx hb dX12_lost_111 hl (k := 4) rfl rfl (by decide) rfl (fun ls hl => ?_)
      obtain ⟨v_6, e_6, h⟩ := nm_some h
      have hl : lv_has ls 6 [(3, .int v_6), (4, .int v_4), (0, .ref (E.2.2 + 199)), (1, .int x1), (2, .int x2)] := by rw [e_6]; exact hl
      refine lv_goto (tgt := 41) hx hb dX12_lost_114 (by decide) ?_
      exact hrec_41 σ_3 τ_3 x1 x2 v_6 _ _ _ _ _ _ h hw (lv_sub hl [2, 3, 4, 0] rfl)
    · rw [if_neg c_5] at h
      refine lv_iload hx hb dX12_lost_73 (lv_at hl 0 rfl) ?_
      obtain ⟨r_7, σ_7, τ_7, q_7, h⟩ := bd_some h
      refine gx_cSi (As := [.int v_4]) (rest := []) S hK gx_ok hw (c_J6_numberOfTrailingZeros_0f7a4 l (E := E) N σ_3 τ_3 v_4 q_7) cw_X12_386 ⟨Nat.le_of_ble_eq_true rfl, Nat.le_of_ble_eq_true rfl⟩ rfl hl.1 rfl (Nat.le_of_ble_eq_true rfl) ⟨Nat.le_of_ble_eq_true rfl, Nat.le_of_ble_eq_true rfl⟩ dX12_lost_75 (fun r9 σ9 τ9 H locs hp hw => ?_)
      obtain ⟨rfl, rfl, rfl⟩ := hp
      refine lv_istore (lv' := [(5, .int r_7), (4, .int v_4), (0, .ref (E.2.2 + 199)), (1, .int x1), (2, .int x2), (3, .int x3)]) hx hb dX12_lost_78 hl (by decide) rfl (fun ls hl => ?_)
      refine lv_aload_n hx hb dX12_lost_80 rfl (lv_at hl 2 rfl) ?_
      refine lv_iconst (v := 0) hx hb dX12_lost_81 (by decide) ?_
      refine gx_put S hK gx_ok hw t_199 cl_13 1 (by decide) rfl mw_1415 rfl rfl (ty := .int) (v := 0) (by decide +kernel) rfl rfl dX12_lost_82 (fun H locs hw => ?_)
      obtain ⟨σ_8, e_8, h⟩ := nm_some h
      rw [← e_8] at hw
      refine lv_aload_n hx hb dX12_lost_85 rfl (lv_at hl 2 rfl) ?_
      refine lv_iload_n hx hb dX12_lost_86 rfl (lv_at hl 5 rfl) ?_
      refine lv_i2l (v := x3.toInt64) hx hb dX12_lost_87 rfl ?_
      obtain ⟨u_9, σ_9, τ_9, q_9, h⟩ := bd_some h
      refine gx_cVv (As := [.long x3.toInt64]) (rest := []) S hK gx_ok hw (c_X12_enters l (E := E) N σ_8 τ_7 x3.toInt64 q_9) cw_X12_122 t_199 cl_13 ⟨Nat.le_of_ble_eq_true rfl, Nat.le_of_ble_eq_true rfl⟩ rfl hl.1 rfl (Nat.le_of_ble_eq_true rfl) ⟨Nat.le_of_ble_eq_true rfl, Nat.le_of_ble_eq_true rfl⟩ dX12_lost_88 (fun σ9 τ9 H locs hp hw => ?_)
      obtain ⟨rfl, rfl⟩ := hp
      refine lv_aload_n hx hb dX12_lost_91 rfl (lv_at hl 2 rfl) ?_
      refine lv_aload_n hx hb dX12_lost_92 rfl (lv_at hl 2 rfl) ?_
      refine gx_getr (j := 207) S hK hw t_199 cl_13 11 (by decide) rfl mw_1425 rfl dX12_lost_93 ?_
      refine lv_bipush (v := 7) hx hb dX12_lost_96 (by decide) ?_
      refine lv_iload hx hb dX12_lost_98 (lv_at hl 0 rfl) ?_
      refine lv_imul hx hb dX12_lost_100 ?_
      refine lv_iconst (v := 0) hx hb dX12_lost_101 (by decide) ?_
      refine lv_iadd hx hb dX12_lost_102 ?_
      obtain ⟨j_10, hj_10, hi_10, h⟩ := ck_some h
      refine gx_iald S hK hw t_207 j_10 hj_10 hi_10 dX12_lost_103 ?_
      refine lv_i2l (v := (σ_9 207 j_10).toInt64) hx hb dX12_lost_104 rfl ?_
      obtain ⟨u_11, σ_11, τ_11, q_11, h⟩ := bd_some h
      refine gx_cVv (As := [.long ((σ_9 207 j_10).toInt64)]) (rest := []) S hK gx_ok hw (c_X12_enters l (E := E) N σ_9 τ_9 ((σ_9 207 j_10).toInt64) q_11) cw_X12_122 t_199 cl_13 ⟨Nat.le_of_ble_eq_true rfl, Nat.le_of_ble_eq_true rfl⟩ rfl hl.1 rfl (Nat.le_of_ble_eq_true rfl) ⟨Nat.le_of_ble_eq_true rfl, Nat.le_of_ble_eq_true rfl⟩ dX12_lost_105 (fun σ9 τ9 H locs hp hw => ?_)
      obtain ⟨rfl, rfl⟩ := hp
      refine lv_iload hx hb dX12_lost_108 (lv_at hl 0 rfl) ?_
      obtain ⟨rfl, rfl, rfl⟩ := sm_inj h
      exact gx_ri (post := gq_p r_7 σ_11 τ_11) (v := r_7) S hr hlk hw rfl dX12_lost_110 ⟨rfl, rfl, rfl⟩
set_option maxHeartbeats 4000000 in
set_option maxRecDepth 100000 in
theorem h_X12_lost_41 (l : Launch) (S : CallFix P9 m9 C9 cX12_lost 6 s av.toArray gx_G RX12) (hr : meth.sig.returnType = (some .int)) (hlk : meth.locks = false) (hK : gx_K E s) (N : Nat) : ∀ (n : Nat) (σ : gI) (τ : gJ) (x1 : Int32) (x2 : Int32) (x3 : Int32) (r : Int32) (σ1 : gI) (τ1 : gJ), H_X12_lost_41 N n σ τ x1 x2 x3 = some (r, σ1, τ1) → ∀ (H : Heap) (locs : List Loc) (ls : Array Slot), gx_W gx_tb gx_tb.length E s σ τ H locs → lv_has ls 6 [(0, .ref (E.2.2 + 199)), (1, .int x1), (2, .int x2), (3, .int x3)] → W P9 l e9 (gx_rm 6) s m9 av.toArray below meth C9 H locs 0 0 (gq_Qi below av s E r σ1 τ1) (F0 m9 41 ls []) := by
  intro n
  induction n with
  | zero => intro σ τ x1 x2 x3 r σ1 τ1 h; cases h
  | succ n ih =>
    intro σ τ x1 x2 x3 r σ1 τ1 h H locs ls hw hl
    exact k_X12_lost_41 l S hr hlk hK N (H_X12_lost_41 N n) (fun σ τ x1 x2 x3 r σ1 τ1 H locs ls h hw hl => ih σ τ x1 x2 x3 r σ1 τ1 h H locs ls hw hl) σ τ x1 x2 x3 h hw hl
set_option maxHeartbeats 4000000 in
set_option maxRecDepth 100000 in
theorem b_X12_lost_0 (l : Launch) (S : CallFix P9 m9 C9 cX12_lost 6 s av.toArray gx_G RX12) (hr : meth.sig.returnType = (some .int)) (hlk : meth.locks = false) (hK : gx_K E s) (N : Nat) (σ : gI) (τ : gJ) (x1 : Int32) {r : Int32} {σ1 : gI} {τ1 : gJ} (h : B_X12_lost_0 N σ τ x1 = some (r, σ1, τ1)) {H : Heap} {locs : List Loc} {ls : Array Slot} (hw : gx_W gx_tb gx_tb.length E s σ τ H locs) (hl : lv_has ls 6 [(0, .ref (E.2.2 + 199)), (1, .int x1)]) : W P9 l e9 (gx_rm 6) s m9 av.toArray below meth C9 H locs 0 0 (gq_Qi below av s E r σ1 τ1) (F0 m9 0 ls []) := by
  have hx := S.1
  have hb := S.2.1
  unfold B_X12_lost_0 at h
  refine lv_aload_n hx hb dX12_lost_0 rfl (lv_at hl 0 rfl) ?_
  refine lv_iconst (v := 0) hx hb dX12_lost_1 (by decide) ?_
  refine gx_put S hK gx_ok hw t_199 cl_13 0 (by decide) rfl mw_1414 rfl rfl (ty := .int) (v := 0) (by decide +kernel) rfl rfl dX12_lost_2 (fun H locs hw => ?_)
  obtain ⟨σ_1, e_1, h⟩ := nm_some h
  rw [← e_1] at hw
  refine lv_iload_n hx hb dX12_lost_5 rfl (lv_at hl 1 rfl) ?_
  refine lv_i2l (v := x1.toInt64) hx hb dX12_lost_6 rfl ?_
  refine lv_lconst (v := 0) hx hb dX12_lost_7 (by decide) ?_
  refine lv_ldc2 (v := 300) hx hb S.2.2.2.1 (S.2.2.2.2 _ mw_1923) dX12_lost_8 ?_
  obtain ⟨r_2, σ_2, τ_2, q_2, h⟩ := bd_some h
  refine gx_cSi (As := [.long x1.toInt64, .long 0, .long 300]) (rest := []) S hK gx_ok hw (c_X12_in l (E := E) N σ_1 τ x1.toInt64 0 300 q_2) cw_X12_129 ⟨Nat.le_of_ble_eq_true rfl, Nat.le_of_ble_eq_true rfl⟩ rfl hl.1 rfl (Nat.le_of_ble_eq_true rfl) ⟨Nat.le_of_ble_eq_true rfl, Nat.le_of_ble_eq_true rfl⟩ dX12_lost_11 (fun r9 σ9 τ9 H locs hp hw => ?_)
  obtain ⟨rfl, rfl, rfl⟩ := hp
  refine lv_if_ne (tgt := 19) hx hb dX12_lost_14 (by decide) (fun c_3 => ?_) (fun c_3 => ?_)
  · rw [if_neg c_3] at h
    refine lv_aload_n hx hb dX12_lost_19 rfl (lv_at hl 0 rfl) ?_
    refine gx_getr (j := 206) S hK hw t_199 cl_13 10 (by decide) rfl mw_1424 rfl dX12_lost_20 ?_
    refine lv_aload_n hx hb dX12_lost_23 rfl (lv_at hl 0 rfl) ?_
    refine gx_getr (j := 207) S hK hw t_199 cl_13 11 (by decide) rfl mw_1425 rfl dX12_lost_24 ?_
    obtain ⟨u_4, σ_4, τ_4, q_4, h⟩ := bd_some h
    refine gx_cSv (As := [.ref (E.2.2 + 206), .ref (E.2.2 + 207)]) (rest := []) S hK gx_ok hw (c_X12_puts l (E := E) N σ_2 τ_2 q_4) cw_X12_374 ⟨Nat.le_of_ble_eq_true rfl, Nat.le_of_ble_eq_true rfl⟩ rfl hl.1 rfl (Nat.le_of_ble_eq_true rfl) ⟨Nat.le_of_ble_eq_true rfl, Nat.le_of_ble_eq_true rfl⟩ dX12_lost_27 (fun σ9 τ9 H locs hp hw => ?_)
    obtain ⟨rfl, rfl⟩ := hp
    refine lv_aload_n hx hb dX12_lost_30 rfl (lv_at hl 0 rfl) ?_
    refine gx_getr (j := 207) S hK hw t_199 cl_13 11 (by decide) rfl mw_1425 rfl dX12_lost_31 ?_
    refine lv_iconst (v := 2) hx hb dX12_lost_34 (by decide) ?_
    obtain ⟨r_5, σ_5, τ_5, q_5, h⟩ := bd_some h
    refine gx_cSi (As := [.ref (E.2.2 + 207), .int 2]) (rest := []) S hK gx_ok hw (c_X12_thoseHow l (E := E) N 207 t_207 σ_4 τ_4 2 q_5) cw_X12_346 ⟨Nat.le_of_ble_eq_true rfl, Nat.le_of_ble_eq_true rfl⟩ rfl hl.1 rfl (Nat.le_of_ble_eq_true rfl) ⟨Nat.le_of_ble_eq_true rfl, Nat.le_of_ble_eq_true rfl⟩ dX12_lost_35 (fun r9 σ9 τ9 H locs hp hw => ?_)
    obtain ⟨rfl, rfl, rfl⟩ := hp
    refine lv_istore_n (lv' := [(2, .int r_5), (0, .ref (E.2.2 + 199)), (1, .int x1)]) hx hb dX12_lost_38 rfl hl (by decide) rfl (fun ls hl => ?_)
    refine lv_iconst (v := 1) hx hb dX12_lost_39 (by decide) ?_
    refine lv_istore_n (lv' := [(3, .int 1), (2, .int r_5), (0, .ref (E.2.2 + 199)), (1, .int x1)]) hx hb dX12_lost_40 rfl hl (by decide) rfl (fun ls hl => ?_)
    exact h_X12_lost_41 l S hr hlk hK N N σ_5 τ_5 x1 r_5 1 _ _ _ h _ _ _ hw (lv_sub hl [2, 3, 1, 0] rfl)
  · rw [if_pos c_3] at h
    refine lv_iconst (v := (-1)) hx hb dX12_lost_17 (by decide) ?_
    obtain ⟨rfl, rfl, rfl⟩ := sm_inj h
    exact gx_ri (post := gq_p (-1) σ_2 τ_2) (v := (-1)) S hr hlk hw rfl dX12_lost_18 ⟨rfl, rfl, rfl⟩
set_option maxHeartbeats 4000000 in
set_option maxRecDepth 100000 in
theorem c_X12_lost (l : Launch) {E : gE} (N : Nat) (σ : gI) (τ : gJ) (x1 : Int32) {r : Int32} {σ1 : gI} {τ1 : gJ} (h : B_X12_lost_0 N σ τ x1 = some (r, σ1, τ1)) : gx_Mi l yX12_lost cX12_lost 6 (some .int) 6 gx_tb E σ τ [.ref (E.2.2 + 199), .int x1] (gq_p r σ1 τ1) := by
  refine gx_bi (by decide +kernel) (Nat.le_of_ble_eq_true rfl) ?_
  intro P9 e9 s m9 below meth C9 S hr hlk hK hw ls hl
  have hl : lv_has ls 6 [(0, .ref (E.2.2 + 199)), (1, .int x1)] := hl
  exact b_X12_lost_0 l S hr hlk hK N σ τ x1 h hw hl
/-! X12_maps -/
def C_X12_maps_34 (N : Nat) (rec_34 : gI → gJ → Int32 → Int32 → Int32 → Int32 → Int32 → Int32 → Option (Int32 × gI × gJ)) (σ : gI) (τ : gJ) (x1 : Int32) (x2 : Int32) (x3 : Int32) (x4 : Int32) (x5 : Int32) (x6 : Int32) : Option (Int32 × gI × gJ) := if x2 < x6 then (nm (up2 σ 199 1 0) fun σ_2 => bd (B_X12_enters_0 N σ_2 τ x3.toInt64) fun _ σ_3 τ_3 => bd (B_X12_enters_0 N σ_3 τ_3 x4.toInt64) fun _ σ_4 τ_4 => if x1 ≤ 0 then (bd (B_X12_enters_0 N σ_4 τ_4 0) fun _ σ_6 τ_6 => some (x1, σ_6, τ_6)) else (bd (B_X12_enters_0 N σ_4 τ_4 ((x2 &&& (x5 ^^^ (-1))).toInt64)) fun _ σ_7 τ_7 => some (x1, σ_7, τ_7))) else (ck x6 4096 fun j_8 => if σ 229 j_8 = 0 then (nm (x6 + 1) fun v_10 => rec_34 σ τ x1 x2 x3 x4 x5 v_10) else (if 0 ≤ x3 then (nm (x4 &&& x6) fun v_12 => nm (x5 ||| x6) fun v_13 => nm (x6 + 1) fun v_14 => rec_34 σ τ x1 x2 x3 v_12 v_13 v_14) else (nm (x4 &&& x6) fun v_15 => nm (x5 ||| x6) fun v_16 => nm (x6 + 1) fun v_17 => rec_34 σ τ x1 x2 x6 v_15 v_16 v_17)))
def H_X12_maps_34 (N : Nat) : Nat → gI → gJ → Int32 → Int32 → Int32 → Int32 → Int32 → Int32 → Option (Int32 × gI × gJ) := itn (fun rec_34 => C_X12_maps_34 N rec_34) (fun _ _ _ _ _ _ _ _ => none)
def B_X12_maps_0 (N : Nat) (σ : gI) (τ : gJ) : Option (Int32 × gI × gJ) := nm (up2 σ 199 0 0) fun σ_1 => bd (B_X12_laysFits_0 N σ_1 τ) fun r_2 σ_2 τ_2 => bd (B_X12_forks_0 N σ_2 τ_2) fun r_3 σ_3 τ_3 => if r_2 ≤ 0 then (H_X12_maps_34 N N σ_3 τ_3 r_2 r_3 (-1) 0 0 0) else (H_X12_maps_34 N N σ_3 τ_3 r_2 r_3 (-1) r_3 0 0)
set_option maxHeartbeats 4000000 in
set_option maxRecDepth 100000 in
theorem k_X12_maps_34 (l : Launch) (S : CallFix P9 m9 C9 cX12_maps 7 s av.toArray gx_G RX12) (hr : meth.sig.returnType = (some .int)) (hlk : meth.locks = false) (hK : gx_K E s) (N : Nat) (rec_34 : gI → gJ → Int32 → Int32 → Int32 → Int32 → Int32 → Int32 → Option (Int32 × gI × gJ)) (hrec_34 : ∀ (σ : gI) (τ : gJ) (x1 : Int32) (x2 : Int32) (x3 : Int32) (x4 : Int32) (x5 : Int32) (x6 : Int32) (r : Int32) (σ1 : gI) (τ1 : gJ) (H : Heap) (locs : List Loc) (ls : Array Slot), rec_34 σ τ x1 x2 x3 x4 x5 x6 = some (r, σ1, τ1) → gx_W gx_tb gx_tb.length E s σ τ H locs → lv_has ls 7 [(0, .ref (E.2.2 + 199)), (1, .int x1), (2, .int x2), (3, .int x3), (4, .int x4), (5, .int x5), (6, .int x6)] → W P9 l e9 (gx_rm 10) s m9 av.toArray below meth C9 H locs 0 0 (gq_Qi below av s E r σ1 τ1) (F0 m9 34 ls [])) (σ : gI) (τ : gJ) (x1 : Int32) (x2 : Int32) (x3 : Int32) (x4 : Int32) (x5 : Int32) (x6 : Int32) {r : Int32} {σ1 : gI} {τ1 : gJ} (h : C_X12_maps_34 N rec_34 σ τ x1 x2 x3 x4 x5 x6 = some (r, σ1, τ1)) {H : Heap} {locs : List Loc} {ls : Array Slot} (hw : gx_W gx_tb gx_tb.length E s σ τ H locs) (hl : lv_has ls 7 [(0, .ref (E.2.2 + 199)), (1, .int x1), (2, .int x2), (3, .int x3), (4, .int x4), (5, .int x5), (6, .int x6)]) : W P9 l e9 (gx_rm 10) s m9 av.toArray below meth C9 H locs 0 0 (gq_Qi below av s E r σ1 τ1) (F0 m9 34 ls []) := by
  have hx := S.1
  have hb := S.2.1
  unfold C_X12_maps_34 at h
  refine lv_iload hx hb dX12_maps_34 (lv_at hl 6 rfl) ?_
  refine lv_iload_n hx hb dX12_maps_36 rfl (lv_at hl 2 rfl) ?_
  refine lv_icmp_gt (tgt := 81) hx hb dX12_maps_37 (by decide) (fun c_1 => ?_) (fun c_1 => ?_)
  · rw [if_pos c_1] at h
    refine lv_aload_n hx hb dX12_maps_81 rfl (lv_at hl 0 rfl) ?_
    refine lv_iconst (v := 0) hx hb dX12_maps_82 (by decide) ?_
    refine gx_put S hK gx_ok hw t_199 cl_13 1 (by decide) rfl mw_1415 rfl rfl (ty := .int) (v := 0) (by decide +kernel) rfl rfl dX12_maps_83 (fun H locs hw => ?_)
    obtain ⟨σ_2, e_2, h⟩ := nm_some h
    rw [← e_2] at hw
    refine lv_aload_n hx hb dX12_maps_86 rfl (lv_at hl 0 rfl) ?_
    refine lv_iload_n hx hb dX12_maps_87 rfl (lv_at hl 3 rfl) ?_
    refine lv_i2l (v := x3.toInt64) hx hb dX12_maps_88 rfl ?_
    obtain ⟨u_3, σ_3, τ_3, q_3, h⟩ := bd_some h
    refine gx_cVv (As := [.long x3.toInt64]) (rest := []) S hK gx_ok hw (c_X12_enters l (E := E) N σ_2 τ x3.toInt64 q_3) cw_X12_122 t_199 cl_13 ⟨Nat.le_of_ble_eq_true rfl, Nat.le_of_ble_eq_true rfl⟩ rfl hl.1 rfl (Nat.le_of_ble_eq_true rfl) ⟨Nat.le_of_ble_eq_true rfl, Nat.le_of_ble_eq_true rfl⟩ dX12_maps_89 (fun σ9 τ9 H locs hp hw => ?_)
    obtain ⟨rfl, rfl⟩ := hp
    refine lv_aload_n hx hb dX12_maps_92 rfl (lv_at hl 0 rfl) ?_
    refine lv_iload hx hb dX12_maps_93 (lv_at hl 4 rfl) ?_
    refine lv_i2l (v := x4.toInt64) hx hb dX12_maps_95 rfl ?_
    obtain ⟨u_4, σ_4, τ_4, q_4, h⟩ := bd_some h
    refine gx_cVv (As := [.long x4.toInt64]) (rest := []) S hK gx_ok hw (c_X12_enters l (E := E) N σ_3 τ_3 x4.toInt64 q_4) cw_X12_122 t_199 cl_13 ⟨Nat.le_of_ble_eq_true rfl, Nat.le_of_ble_eq_true rfl⟩ rfl hl.1 rfl (Nat.le_of_ble_eq_true rfl) ⟨Nat.le_of_ble_eq_true rfl, Nat.le_of_ble_eq_true rfl⟩ dX12_maps_96 (fun σ9 τ9 H locs hp hw => ?_)
    obtain ⟨rfl, rfl⟩ := hp
    refine lv_aload_n hx hb dX12_maps_99 rfl (lv_at hl 0 rfl) ?_
    refine lv_iload_n hx hb dX12_maps_100 rfl (lv_at hl 1 rfl) ?_
    refine lv_if_le (tgt := 114) hx hb dX12_maps_101 (by decide) (fun c_5 => ?_) (fun c_5 => ?_)
    · rw [if_pos c_5] at h
      refine lv_lconst (v := 0) hx hb dX12_maps_114 (by decide) ?_
      obtain ⟨u_6, σ_6, τ_6, q_6, h⟩ := bd_some h
      refine gx_cVv (As := [.long 0]) (rest := []) S hK gx_ok hw (c_X12_enters l (E := E) N σ_4 τ_4 0 q_6) cw_X12_122 t_199 cl_13 ⟨Nat.le_of_ble_eq_true rfl, Nat.le_of_ble_eq_true rfl⟩ rfl hl.1 rfl (Nat.le_of_ble_eq_true rfl) ⟨Nat.le_of_ble_eq_true rfl, Nat.le_of_ble_eq_true rfl⟩ dX12_maps_115 (fun σ9 τ9 H locs hp hw => ?_)
      obtain ⟨rfl, rfl⟩ := hp
      refine lv_iload_n hx hb dX12_maps_118 rfl (lv_at hl 1 rfl) ?_
      obtain ⟨rfl, rfl, rfl⟩ := sm_inj h
      exact gx_ri (post := gq_p x1 σ_6 τ_6) (v := x1) S hr hlk hw rfl dX12_maps_119 ⟨rfl, rfl, rfl⟩
    · rw [if_neg c_5] at h
      refine lv_iload_n hx hb dX12_maps_104 rfl (lv_at hl 2 rfl) ?_
      refine lv_iload hx hb dX12_maps_105 (lv_at hl 5 rfl) ?_
      refine lv_iconst (v := (-1)) hx hb dX12_maps_107 (by decide) ?_
      refine lv_ixor hx hb dX12_maps_108 ?_
      refine lv_iand hx hb dX12_maps_109 ?_
      refine lv_i2l (v := (x2 &&& (x5 ^^^ (-1))).toInt64) hx hb dX12_maps_110 rfl ?_
      refine lv_goto (tgt := 115) hx hb dX12_maps_111 (by decide) ?_
      obtain ⟨u_7, σ_7, τ_7, q_7, h⟩ := bd_some h
      refine gx_cVv (As := [.long ((x2 &&& (x5 ^^^ (-1))).toInt64)]) (rest := []) S hK gx_ok hw (c_X12_enters l (E := E) N σ_4 τ_4 ((x2 &&& (x5 ^^^ (-1))).toInt64) q_7) cw_X12_122 t_199 cl_13 ⟨Nat.le_of_ble_eq_true rfl, Nat.le_of_ble_eq_true rfl⟩ rfl hl.1 rfl (Nat.le_of_ble_eq_true rfl) ⟨Nat.le_of_ble_eq_true rfl, Nat.le_of_ble_eq_true rfl⟩ dX12_maps_115 (fun σ9 τ9 H locs hp hw => ?_)
      obtain ⟨rfl, rfl⟩ := hp
      refine lv_iload_n hx hb dX12_maps_118 rfl (lv_at hl 1 rfl) ?_
      obtain ⟨rfl, rfl, rfl⟩ := sm_inj h
      exact gx_ri (post := gq_p x1 σ_7 τ_7) (v := x1) S hr hlk hw rfl dX12_maps_119 ⟨rfl, rfl, rfl⟩
  · rw [if_neg c_1] at h
    refine lv_aload_n hx hb dX12_maps_40 rfl (lv_at hl 0 rfl) ?_
    refine gx_getr (j := 229) S hK hw t_199 cl_13 56 (by decide) rfl mw_1470 rfl dX12_maps_41 ?_
    refine lv_iload hx hb dX12_maps_44 (lv_at hl 6 rfl) ?_
    obtain ⟨j_8, hj_8, hi_8, h⟩ := ck_some h
    refine gx_zald S hK hw t_229 j_8 hj_8 hi_8 dX12_maps_46 ?_
    refine lv_if_eq (tgt := 75) hx hb dX12_maps_47 (by decide) (fun c_9 => ?_) (fun c_9 => ?_)
    · rw [if_pos c_9] at h
      refine lv_iinc (v := x6 + 1) (lv' := [(6, .int (x6 + 1)), (0, .ref (E.2.2 + 199)), (1, .int x1), (2, .int x2), (3, .int x3), (4, .int x4), (5, .int x5)]) hx hb dX12_maps_75 hl (k := 6) rfl rfl (by decide) rfl (fun ls hl => ?_)
      obtain ⟨v_10, e_10, h⟩ := nm_some h
      have hl : lv_has ls 7 [(6, .int v_10), (0, .ref (E.2.2 + 199)), (1, .int x1), (2, .int x2), (3, .int x3), (4, .int x4), (5, .int x5)] := by rw [e_10]; exact hl
      refine lv_goto (tgt := 34) hx hb dX12_maps_78 (by decide) ?_
      exact hrec_34 σ τ x1 x2 x3 x4 x5 v_10 _ _ _ _ _ _ h hw (lv_sub hl [1, 2, 3, 4, 5, 6, 0] rfl)
    · rw [if_neg c_9] at h
      refine lv_iload_n hx hb dX12_maps_50 rfl (lv_at hl 3 rfl) ?_
      refine lv_if_ge (tgt := 59) hx hb dX12_maps_51 (by decide) (fun c_11 => ?_) (fun c_11 => ?_)
      · rw [if_pos c_11] at h
        refine lv_iload_n hx hb dX12_maps_59 rfl (lv_at hl 3 rfl) ?_
        refine lv_istore_n (lv' := [(3, .int x3), (0, .ref (E.2.2 + 199)), (1, .int x1), (2, .int x2), (4, .int x4), (5, .int x5), (6, .int x6)]) hx hb dX12_maps_60 rfl hl (by decide) rfl (fun ls hl => ?_)
        refine lv_iload hx hb dX12_maps_61 (lv_at hl 4 rfl) ?_
        refine lv_iload hx hb dX12_maps_63 (lv_at hl 6 rfl) ?_
        refine lv_iand hx hb dX12_maps_65 ?_
        refine lv_istore (lv' := [(4, .int (x4 &&& x6)), (3, .int x3), (0, .ref (E.2.2 + 199)), (1, .int x1), (2, .int x2), (5, .int x5), (6, .int x6)]) hx hb dX12_maps_66 hl (by decide) rfl (fun ls hl => ?_)
        obtain ⟨v_12, e_12, h⟩ := nm_some h
        have hl : lv_has ls 7 [(4, .int v_12), (3, .int x3), (0, .ref (E.2.2 + 199)), (1, .int x1), (2, .int x2), (5, .int x5), (6, .int x6)] := by rw [e_12]; exact hl
        refine lv_iload hx hb dX12_maps_68 (lv_at hl 5 rfl) ?_
        refine lv_iload hx hb dX12_maps_70 (lv_at hl 6 rfl) ?_
        refine lv_ior hx hb dX12_maps_72 ?_
        refine lv_istore (lv' := [(5, .int (x5 ||| x6)), (4, .int v_12), (3, .int x3), (0, .ref (E.2.2 + 199)), (1, .int x1), (2, .int x2), (6, .int x6)]) hx hb dX12_maps_73 hl (by decide) rfl (fun ls hl => ?_)
        obtain ⟨v_13, e_13, h⟩ := nm_some h
        have hl : lv_has ls 7 [(5, .int v_13), (4, .int v_12), (3, .int x3), (0, .ref (E.2.2 + 199)), (1, .int x1), (2, .int x2), (6, .int x6)] := by rw [e_13]; exact hl
        refine lv_iinc (v := x6 + 1) (lv' := [(6, .int (x6 + 1)), (5, .int v_13), (4, .int v_12), (3, .int x3), (0, .ref (E.2.2 + 199)), (1, .int x1), (2, .int x2)]) hx hb dX12_maps_75 hl (k := 6) rfl rfl (by decide) rfl (fun ls hl => ?_)
        obtain ⟨v_14, e_14, h⟩ := nm_some h
        have hl : lv_has ls 7 [(6, .int v_14), (5, .int v_13), (4, .int v_12), (3, .int x3), (0, .ref (E.2.2 + 199)), (1, .int x1), (2, .int x2)] := by rw [e_14]; exact hl
        refine lv_goto (tgt := 34) hx hb dX12_maps_78 (by decide) ?_
        exact hrec_34 σ τ x1 x2 x3 v_12 v_13 v_14 _ _ _ _ _ _ h hw (lv_sub hl [4, 5, 6, 3, 2, 1, 0] rfl)
      · rw [if_neg c_11] at h
        refine lv_iload hx hb dX12_maps_54 (lv_at hl 6 rfl) ?_
        refine lv_goto (tgt := 60) hx hb dX12_maps_56 (by decide) ?_
        refine lv_istore_n (lv' := [(3, .int x6), (0, .ref (E.2.2 + 199)), (1, .int x1), (2, .int x2), (4, .int x4), (5, .int x5), (6, .int x6)]) hx hb dX12_maps_60 rfl hl (by decide) rfl (fun ls hl => ?_)
        refine lv_iload hx hb dX12_maps_61 (lv_at hl 4 rfl) ?_
        refine lv_iload hx hb dX12_maps_63 (lv_at hl 6 rfl) ?_
        refine lv_iand hx hb dX12_maps_65 ?_
        refine lv_istore (lv' := [(4, .int (x4 &&& x6)), (3, .int x6), (0, .ref (E.2.2 + 199)), (1, .int x1), (2, .int x2), (5, .int x5), (6, .int x6)]) hx hb dX12_maps_66 hl (by decide) rfl (fun ls hl => ?_)
        obtain ⟨v_15, e_15, h⟩ := nm_some h
        have hl : lv_has ls 7 [(4, .int v_15), (3, .int x6), (0, .ref (E.2.2 + 199)), (1, .int x1), (2, .int x2), (5, .int x5), (6, .int x6)] := by rw [e_15]; exact hl
        refine lv_iload hx hb dX12_maps_68 (lv_at hl 5 rfl) ?_
        refine lv_iload hx hb dX12_maps_70 (lv_at hl 6 rfl) ?_
        refine lv_ior hx hb dX12_maps_72 ?_
        refine lv_istore (lv' := [(5, .int (x5 ||| x6)), (4, .int v_15), (3, .int x6), (0, .ref (E.2.2 + 199)), (1, .int x1), (2, .int x2), (6, .int x6)]) hx hb dX12_maps_73 hl (by decide) rfl (fun ls hl => ?_)
        obtain ⟨v_16, e_16, h⟩ := nm_some h
        have hl : lv_has ls 7 [(5, .int v_16), (4, .int v_15), (3, .int x6), (0, .ref (E.2.2 + 199)), (1, .int x1), (2, .int x2), (6, .int x6)] := by rw [e_16]; exact hl
        refine lv_iinc (v := x6 + 1) (lv' := [(6, .int (x6 + 1)), (5, .int v_16), (4, .int v_15), (3, .int x6), (0, .ref (E.2.2 + 199)), (1, .int x1), (2, .int x2)]) hx hb dX12_maps_75 hl (k := 6) rfl rfl (by decide) rfl (fun ls hl => ?_)
        obtain ⟨v_17, e_17, h⟩ := nm_some h
        have hl : lv_has ls 7 [(6, .int v_17), (5, .int v_16), (4, .int v_15), (3, .int x6), (0, .ref (E.2.2 + 199)), (1, .int x1), (2, .int x2)] := by rw [e_17]; exact hl
        refine lv_goto (tgt := 34) hx hb dX12_maps_78 (by decide) ?_
        exact hrec_34 σ τ x1 x2 x6 v_15 v_16 v_17 _ _ _ _ _ _ h hw (lv_sub hl [4, 5, 6, 3, 2, 1, 0] rfl)
set_option maxHeartbeats 4000000 in
set_option maxRecDepth 100000 in
theorem h_X12_maps_34 (l : Launch) (S : CallFix P9 m9 C9 cX12_maps 7 s av.toArray gx_G RX12) (hr : meth.sig.returnType = (some .int)) (hlk : meth.locks = false) (hK : gx_K E s) (N : Nat) : ∀ (n : Nat) (σ : gI) (τ : gJ) (x1 : Int32) (x2 : Int32) (x3 : Int32) (x4 : Int32) (x5 : Int32) (x6 : Int32) (r : Int32) (σ1 : gI) (τ1 : gJ), H_X12_maps_34 N n σ τ x1 x2 x3 x4 x5 x6 = some (r, σ1, τ1) → ∀ (H : Heap) (locs : List Loc) (ls : Array Slot), gx_W gx_tb gx_tb.length E s σ τ H locs → lv_has ls 7 [(0, .ref (E.2.2 + 199)), (1, .int x1), (2, .int x2), (3, .int x3), (4, .int x4), (5, .int x5), (6, .int x6)] → W P9 l e9 (gx_rm 10) s m9 av.toArray below meth C9 H locs 0 0 (gq_Qi below av s E r σ1 τ1) (F0 m9 34 ls []) := by
  intro n
  induction n with
  | zero => intro σ τ x1 x2 x3 x4 x5 x6 r σ1 τ1 h; cases h
  | succ n ih =>
    intro σ τ x1 x2 x3 x4 x5 x6 r σ1 τ1 h H locs ls hw hl
    exact k_X12_maps_34 l S hr hlk hK N (H_X12_maps_34 N n) (fun σ τ x1 x2 x3 x4 x5 x6 r σ1 τ1 H locs ls h hw hl => ih σ τ x1 x2 x3 x4 x5 x6 r σ1 τ1 h H locs ls hw hl) σ τ x1 x2 x3 x4 x5 x6 h hw hl
set_option maxHeartbeats 4000000 in
set_option maxRecDepth 100000 in
theorem b_X12_maps_0 (l : Launch) (S : CallFix P9 m9 C9 cX12_maps 7 s av.toArray gx_G RX12) (hr : meth.sig.returnType = (some .int)) (hlk : meth.locks = false) (hK : gx_K E s) (N : Nat) (σ : gI) (τ : gJ) {r : Int32} {σ1 : gI} {τ1 : gJ} (h : B_X12_maps_0 N σ τ = some (r, σ1, τ1)) {H : Heap} {locs : List Loc} {ls : Array Slot} (hw : gx_W gx_tb gx_tb.length E s σ τ H locs) (hl : lv_has ls 7 [(0, .ref (E.2.2 + 199))]) : W P9 l e9 (gx_rm 10) s m9 av.toArray below meth C9 H locs 0 0 (gq_Qi below av s E r σ1 τ1) (F0 m9 0 ls []) := by
  have hx := S.1
  have hb := S.2.1
  unfold B_X12_maps_0 at h
  refine lv_aload_n hx hb dX12_maps_0 rfl (lv_at hl 0 rfl) ?_
  refine lv_iconst (v := 0) hx hb dX12_maps_1 (by decide) ?_
  refine gx_put S hK gx_ok hw t_199 cl_13 0 (by decide) rfl mw_1414 rfl rfl (ty := .int) (v := 0) (by decide +kernel) rfl rfl dX12_maps_2 (fun H locs hw => ?_)
  obtain ⟨σ_1, e_1, h⟩ := nm_some h
  rw [← e_1] at hw
  refine lv_aload_n hx hb dX12_maps_5 rfl (lv_at hl 0 rfl) ?_
  obtain ⟨r_2, σ_2, τ_2, q_2, h⟩ := bd_some h
  refine gx_cVi (As := []) (rest := []) S hK gx_ok hw (c_X12_laysFits l (E := E) N σ_1 τ q_2) cw_X12_448 t_199 cl_13 ⟨Nat.le_of_ble_eq_true rfl, Nat.le_of_ble_eq_true rfl⟩ rfl hl.1 rfl (Nat.le_of_ble_eq_true rfl) ⟨Nat.le_of_ble_eq_true rfl, Nat.le_of_ble_eq_true rfl⟩ dX12_maps_6 (fun r9 σ9 τ9 H locs hp hw => ?_)
  obtain ⟨rfl, rfl, rfl⟩ := hp
  refine lv_istore_n (lv' := [(1, .int r_2), (0, .ref (E.2.2 + 199))]) hx hb dX12_maps_9 rfl hl (by decide) rfl (fun ls hl => ?_)
  refine lv_aload_n hx hb dX12_maps_10 rfl (lv_at hl 1 rfl) ?_
  obtain ⟨r_3, σ_3, τ_3, q_3, h⟩ := bd_some h
  refine gx_cVi (As := []) (rest := []) S hK gx_ok hw (c_X12_forks l (E := E) N σ_2 τ_2 q_3) cw_X12_416 t_199 cl_13 ⟨Nat.le_of_ble_eq_true rfl, Nat.le_of_ble_eq_true rfl⟩ rfl hl.1 rfl (Nat.le_of_ble_eq_true rfl) ⟨Nat.le_of_ble_eq_true rfl, Nat.le_of_ble_eq_true rfl⟩ dX12_maps_11 (fun r9 σ9 τ9 H locs hp hw => ?_)
  obtain ⟨rfl, rfl, rfl⟩ := hp
  refine lv_istore_n (lv' := [(2, .int r_3), (1, .int r_2), (0, .ref (E.2.2 + 199))]) hx hb dX12_maps_14 rfl hl (by decide) rfl (fun ls hl => ?_)
  refine lv_iconst (v := (-1)) hx hb dX12_maps_15 (by decide) ?_
  refine lv_istore_n (lv' := [(3, .int (-1)), (2, .int r_3), (1, .int r_2), (0, .ref (E.2.2 + 199))]) hx hb dX12_maps_16 rfl hl (by decide) rfl (fun ls hl => ?_)
  refine lv_iload_n hx hb dX12_maps_17 rfl (lv_at hl 2 rfl) ?_
  refine lv_if_le (tgt := 25) hx hb dX12_maps_18 (by decide) (fun c_4 => ?_) (fun c_4 => ?_)
  · rw [if_pos c_4] at h
    refine lv_iconst (v := 0) hx hb dX12_maps_25 (by decide) ?_
    refine lv_istore (lv' := [(4, .int 0), (3, .int (-1)), (2, .int r_3), (1, .int r_2), (0, .ref (E.2.2 + 199))]) hx hb dX12_maps_26 hl (by decide) rfl (fun ls hl => ?_)
    refine lv_iconst (v := 0) hx hb dX12_maps_28 (by decide) ?_
    refine lv_istore (lv' := [(5, .int 0), (4, .int 0), (3, .int (-1)), (2, .int r_3), (1, .int r_2), (0, .ref (E.2.2 + 199))]) hx hb dX12_maps_29 hl (by decide) rfl (fun ls hl => ?_)
    refine lv_iconst (v := 0) hx hb dX12_maps_31 (by decide) ?_
    refine lv_istore (lv' := [(6, .int 0), (5, .int 0), (4, .int 0), (3, .int (-1)), (2, .int r_3), (1, .int r_2), (0, .ref (E.2.2 + 199))]) hx hb dX12_maps_32 hl (by decide) rfl (fun ls hl => ?_)
    exact h_X12_maps_34 l S hr hlk hK N N σ_3 τ_3 r_2 r_3 (-1) 0 0 0 _ _ _ h _ _ _ hw (lv_sub hl [6, 5, 4, 3, 2, 1, 0] rfl)
  · rw [if_neg c_4] at h
    refine lv_iload_n hx hb dX12_maps_21 rfl (lv_at hl 1 rfl) ?_
    refine lv_goto (tgt := 26) hx hb dX12_maps_22 (by decide) ?_
    refine lv_istore (lv' := [(4, .int r_3), (3, .int (-1)), (2, .int r_3), (1, .int r_2), (0, .ref (E.2.2 + 199))]) hx hb dX12_maps_26 hl (by decide) rfl (fun ls hl => ?_)
    refine lv_iconst (v := 0) hx hb dX12_maps_28 (by decide) ?_
    refine lv_istore (lv' := [(5, .int 0), (4, .int r_3), (3, .int (-1)), (2, .int r_3), (1, .int r_2), (0, .ref (E.2.2 + 199))]) hx hb dX12_maps_29 hl (by decide) rfl (fun ls hl => ?_)
    refine lv_iconst (v := 0) hx hb dX12_maps_31 (by decide) ?_
    refine lv_istore (lv' := [(6, .int 0), (5, .int 0), (4, .int r_3), (3, .int (-1)), (2, .int r_3), (1, .int r_2), (0, .ref (E.2.2 + 199))]) hx hb dX12_maps_32 hl (by decide) rfl (fun ls hl => ?_)
    exact h_X12_maps_34 l S hr hlk hK N N σ_3 τ_3 r_2 r_3 (-1) r_3 0 0 _ _ _ h _ _ _ hw (lv_sub hl [6, 5, 4, 3, 2, 1, 0] rfl)
set_option maxHeartbeats 4000000 in
set_option maxRecDepth 100000 in
theorem c_X12_maps (l : Launch) {E : gE} (N : Nat) (σ : gI) (τ : gJ) {r : Int32} {σ1 : gI} {τ1 : gJ} (h : B_X12_maps_0 N σ τ = some (r, σ1, τ1)) : gx_Mi l yX12_maps cX12_maps 7 (some .int) 10 gx_tb E σ τ [.ref (E.2.2 + 199)] (gq_p r σ1 τ1) := by
  refine gx_bi (by decide +kernel) (Nat.le_of_ble_eq_true rfl) ?_
  intro P9 e9 s m9 below meth C9 S hr hlk hK hw ls hl
  have hl : lv_has ls 7 [(0, .ref (E.2.2 + 199))] := hl
  exact b_X12_maps_0 l S hr hlk hK N σ τ h hw hl
/-! X12_marks -/
def B_X12_marks_126 (N : Nat) (rec_62 : gI → gJ → Int32 → Int32 → Int32 → Int32 → Int32 → Int32 → Int32 → Int32 → Option (Int32 × gI × gJ)) (rec_74 : gI → gJ → Int32 → Int32 → Int32 → Int32 → Int32 → Int32 → Int32 → Int32 → Int32 → Option (Int32 × gI × gJ)) (σ : gI) (τ : gJ) (x1 : Int32) (x2 : Int32) (x3 : Int32) (x4 : Int32) (x5 : Int32) (x7 : Int32) (x8 : Int32) (x9 : Int32) (y0 : Int32) : Option (Int32 × gI × gJ) := if 0 ≤ x5 then (nm (x7 ||| (1 <<< (x8 &&& 31))) fun v_2 => nm (x4 + 1) fun v_3 => nm (x9 + 1) fun v_4 => rec_74 σ τ x1 x2 x3 v_3 x5 y0 v_2 x8 v_4) else (nm (x7 ||| (1 <<< (x8 &&& 31))) fun v_5 => nm (x4 + 1) fun v_6 => nm (x9 + 1) fun v_7 => rec_74 σ τ x1 x2 x3 v_6 x8 y0 v_5 x8 v_7)
def C_X12_marks_74 (N : Nat) (rec_62 : gI → gJ → Int32 → Int32 → Int32 → Int32 → Int32 → Int32 → Int32 → Int32 → Option (Int32 × gI × gJ)) (rec_74 : gI → gJ → Int32 → Int32 → Int32 → Int32 → Int32 → Int32 → Int32 → Int32 → Int32 → Option (Int32 × gI × gJ)) (σ : gI) (τ : gJ) (x1 : Int32) (x2 : Int32) (x3 : Int32) (x4 : Int32) (x5 : Int32) (x6 : Int32) (x7 : Int32) (x8 : Int32) (x9 : Int32) : Option (Int32 × gI × gJ) := if 9 < x9 then (nm (x8 + 1) fun v_2 => rec_62 σ τ x1 x2 x3 x4 x5 x6 x7 v_2) else (bd (B_X12_goesAlone_0 N σ τ x8 x1 x2 x9) fun r_3 σ_3 τ_3 => if r_3 < 0 then (nm (x9 + 1) fun v_5 => rec_74 σ_3 τ_3 x1 x2 x3 x4 x5 x6 x7 x8 v_5) else (if σ_3 224 4 = 1 then (if σ_3 224 3 = x3 then (if 0 ≤ x5 then (B_X12_marks_126 N rec_62 rec_74 σ_3 τ_3 x1 x2 x3 x4 x5 x7 x8 x9 x6) else (B_X12_marks_126 N rec_62 rec_74 σ_3 τ_3 x1 x2 x3 x4 x5 x7 x8 x9 x9)) else (nm (x9 + 1) fun v_9 => rec_74 σ_3 τ_3 x1 x2 x3 x4 x5 x6 x7 x8 v_9)) else (nm (x9 + 1) fun v_7 => rec_74 σ_3 τ_3 x1 x2 x3 x4 x5 x6 x7 x8 v_7)))
def H_X12_marks_74 (N : Nat) (rec_62 : gI → gJ → Int32 → Int32 → Int32 → Int32 → Int32 → Int32 → Int32 → Int32 → Option (Int32 × gI × gJ)) : Nat → gI → gJ → Int32 → Int32 → Int32 → Int32 → Int32 → Int32 → Int32 → Int32 → Int32 → Option (Int32 × gI × gJ) := itn (fun rec_74 => C_X12_marks_74 N rec_62 rec_74) (fun _ _ _ _ _ _ _ _ _ _ _ => none)
def C_X12_marks_62 (N : Nat) (rec_62 : gI → gJ → Int32 → Int32 → Int32 → Int32 → Int32 → Int32 → Int32 → Int32 → Option (Int32 × gI × gJ)) (σ : gI) (τ : gJ) (x1 : Int32) (x2 : Int32) (x3 : Int32) (x4 : Int32) (x5 : Int32) (x6 : Int32) (x7 : Int32) (x8 : Int32) : Option (Int32 × gI × gJ) := if σ 199 3 ≤ x8 then (nm (up2 σ 199 1 0) fun σ_2 => if x4 ≤ 0 then (bd (B_X12_enters_0 N σ_2 τ x7.toInt64) fun _ σ_4 τ_4 => some (x4, σ_4, τ_4)) else (bd (B_X12_enters_0 N σ_2 τ x5.toInt64) fun _ σ_5 τ_5 => bd (B_X12_enters_0 N σ_5 τ_5 x6.toInt64) fun _ σ_6 τ_6 => bd (B_X12_enters_0 N σ_6 τ_6 x7.toInt64) fun _ σ_7 τ_7 => some (x4, σ_7, τ_7))) else (H_X12_marks_74 N rec_62 N σ τ x1 x2 x3 x4 x5 x6 x7 x8 0)
def H_X12_marks_62 (N : Nat) : Nat → gI → gJ → Int32 → Int32 → Int32 → Int32 → Int32 → Int32 → Int32 → Int32 → Option (Int32 × gI × gJ) := itn (fun rec_62 => C_X12_marks_62 N rec_62) (fun _ _ _ _ _ _ _ _ _ _ => none)
def B_X12_marks_0 (N : Nat) (σ : gI) (τ : gJ) (x1 : Int32) (x2 : Int32) (x3 : Int32) : Option (Int32 × gI × gJ) := nm (up2 σ 199 0 0) fun σ_1 => bd (B_X12_in_0 N σ_1 τ x1.toInt64 0 99) fun r_2 σ_2 τ_2 => if r_2 = 0 then (some ((-1), σ_2, τ_2)) else (bd (B_X12_in_0 N σ_2 τ_2 x2.toInt64 0 9) fun r_4 σ_4 τ_4 => if r_4 = 0 then (some ((-1), σ_4, τ_4)) else (bd (B_X12_in_0 N σ_4 τ_4 x3.toInt64 0 4095) fun r_6 σ_6 τ_6 => if r_6 = 0 then (some ((-1), σ_6, τ_6)) else (bd (B_X12_thinksNow_0 N σ_6 τ_6) fun _ σ_8 τ_8 => H_X12_marks_62 N N σ_8 τ_8 x1 x2 x3 0 (-1) (-1) 0 0)))
set_option maxHeartbeats 4000000 in
set_option maxRecDepth 100000 in
theorem b_X12_marks_126 (l : Launch) (S : CallFix P9 m9 C9 cX12_marks 10 s av.toArray gx_G RX12) (hr : meth.sig.returnType = (some .int)) (hlk : meth.locks = false) (hK : gx_K E s) (N : Nat) (rec_62 : gI → gJ → Int32 → Int32 → Int32 → Int32 → Int32 → Int32 → Int32 → Int32 → Option (Int32 × gI × gJ)) (hrec_62 : ∀ (σ : gI) (τ : gJ) (x1 : Int32) (x2 : Int32) (x3 : Int32) (x4 : Int32) (x5 : Int32) (x6 : Int32) (x7 : Int32) (x8 : Int32) (r : Int32) (σ1 : gI) (τ1 : gJ) (H : Heap) (locs : List Loc) (ls : Array Slot), rec_62 σ τ x1 x2 x3 x4 x5 x6 x7 x8 = some (r, σ1, τ1) → gx_W gx_tb gx_tb.length E s σ τ H locs → lv_has ls 10 [(0, .ref (E.2.2 + 199)), (1, .int x1), (2, .int x2), (3, .int x3), (4, .int x4), (5, .int x5), (6, .int x6), (7, .int x7), (8, .int x8)] → W P9 l e9 (gx_rm 8) s m9 av.toArray below meth C9 H locs 0 0 (gq_Qi below av s E r σ1 τ1) (F0 m9 62 ls [])) (rec_74 : gI → gJ → Int32 → Int32 → Int32 → Int32 → Int32 → Int32 → Int32 → Int32 → Int32 → Option (Int32 × gI × gJ)) (hrec_74 : ∀ (σ : gI) (τ : gJ) (x1 : Int32) (x2 : Int32) (x3 : Int32) (x4 : Int32) (x5 : Int32) (x6 : Int32) (x7 : Int32) (x8 : Int32) (x9 : Int32) (r : Int32) (σ1 : gI) (τ1 : gJ) (H : Heap) (locs : List Loc) (ls : Array Slot), rec_74 σ τ x1 x2 x3 x4 x5 x6 x7 x8 x9 = some (r, σ1, τ1) → gx_W gx_tb gx_tb.length E s σ τ H locs → lv_has ls 10 [(0, .ref (E.2.2 + 199)), (1, .int x1), (2, .int x2), (3, .int x3), (4, .int x4), (5, .int x5), (6, .int x6), (7, .int x7), (8, .int x8), (9, .int x9)] → W P9 l e9 (gx_rm 8) s m9 av.toArray below meth C9 H locs 0 0 (gq_Qi below av s E r σ1 τ1) (F0 m9 74 ls [])) (σ : gI) (τ : gJ) (x1 : Int32) (x2 : Int32) (x3 : Int32) (x4 : Int32) (x5 : Int32) (x7 : Int32) (x8 : Int32) (x9 : Int32) (y0 : Int32) {r : Int32} {σ1 : gI} {τ1 : gJ} (h : B_X12_marks_126 N rec_62 rec_74 σ τ x1 x2 x3 x4 x5 x7 x8 x9 y0 = some (r, σ1, τ1)) {H : Heap} {locs : List Loc} {ls : Array Slot} (hw : gx_W gx_tb gx_tb.length E s σ τ H locs) (hl : lv_has ls 10 [(0, .ref (E.2.2 + 199)), (1, .int x1), (2, .int x2), (3, .int x3), (4, .int x4), (5, .int x5), (7, .int x7), (8, .int x8), (9, .int x9)]) : W P9 l e9 (gx_rm 8) s m9 av.toArray below meth C9 H locs 0 0 (gq_Qi below av s E r σ1 τ1) (F0 m9 126 ls [.int y0]) := by
  have hx := S.1
  have hb := S.2.1
  unfold B_X12_marks_126 at h
  refine lv_istore (lv' := [(6, .int y0), (0, .ref (E.2.2 + 199)), (1, .int x1), (2, .int x2), (3, .int x3), (4, .int x4), (5, .int x5), (7, .int x7), (8, .int x8), (9, .int x9)]) hx hb dX12_marks_126 hl (by decide) rfl (fun ls hl => ?_)
  refine lv_iload hx hb dX12_marks_128 (lv_at hl 6 rfl) ?_
  refine lv_if_ge (tgt := 138) hx hb dX12_marks_130 (by decide) (fun c_1 => ?_) (fun c_1 => ?_)
  · rw [if_pos c_1] at h
    refine lv_iload hx hb dX12_marks_138 (lv_at hl 6 rfl) ?_
    refine lv_istore (lv' := [(5, .int x5), (6, .int y0), (0, .ref (E.2.2 + 199)), (1, .int x1), (2, .int x2), (3, .int x3), (4, .int x4), (7, .int x7), (8, .int x8), (9, .int x9)]) hx hb dX12_marks_140 hl (by decide) rfl (fun ls hl => ?_)
    refine lv_iload hx hb dX12_marks_142 (lv_at hl 7 rfl) ?_
    refine lv_iconst (v := 1) hx hb dX12_marks_144 (by decide) ?_
    refine lv_iload hx hb dX12_marks_145 (lv_at hl 8 rfl) ?_
    refine lv_ishl hx hb dX12_marks_147 ?_
    refine lv_ior hx hb dX12_marks_148 ?_
    refine lv_istore (lv' := [(7, .int (x7 ||| (1 <<< (x8 &&& 31)))), (5, .int x5), (6, .int y0), (0, .ref (E.2.2 + 199)), (1, .int x1), (2, .int x2), (3, .int x3), (4, .int x4), (8, .int x8), (9, .int x9)]) hx hb dX12_marks_149 hl (by decide) rfl (fun ls hl => ?_)
    obtain ⟨v_2, e_2, h⟩ := nm_some h
    have hl : lv_has ls 10 [(7, .int v_2), (5, .int x5), (6, .int y0), (0, .ref (E.2.2 + 199)), (1, .int x1), (2, .int x2), (3, .int x3), (4, .int x4), (8, .int x8), (9, .int x9)] := by rw [e_2]; exact hl
    refine lv_iinc (v := x4 + 1) (lv' := [(4, .int (x4 + 1)), (7, .int v_2), (5, .int x5), (6, .int y0), (0, .ref (E.2.2 + 199)), (1, .int x1), (2, .int x2), (3, .int x3), (8, .int x8), (9, .int x9)]) hx hb dX12_marks_151 hl (k := 7) rfl rfl (by decide) rfl (fun ls hl => ?_)
    obtain ⟨v_3, e_3, h⟩ := nm_some h
    have hl : lv_has ls 10 [(4, .int v_3), (7, .int v_2), (5, .int x5), (6, .int y0), (0, .ref (E.2.2 + 199)), (1, .int x1), (2, .int x2), (3, .int x3), (8, .int x8), (9, .int x9)] := by rw [e_3]; exact hl
    refine lv_iinc (v := x9 + 1) (lv' := [(9, .int (x9 + 1)), (4, .int v_3), (7, .int v_2), (5, .int x5), (6, .int y0), (0, .ref (E.2.2 + 199)), (1, .int x1), (2, .int x2), (3, .int x3), (8, .int x8)]) hx hb dX12_marks_154 hl (k := 9) rfl rfl (by decide) rfl (fun ls hl => ?_)
    obtain ⟨v_4, e_4, h⟩ := nm_some h
    have hl : lv_has ls 10 [(9, .int v_4), (4, .int v_3), (7, .int v_2), (5, .int x5), (6, .int y0), (0, .ref (E.2.2 + 199)), (1, .int x1), (2, .int x2), (3, .int x3), (8, .int x8)] := by rw [e_4]; exact hl
    refine lv_goto (tgt := 74) hx hb dX12_marks_157 (by decide) ?_
    exact hrec_74 σ τ x1 x2 x3 v_3 x5 y0 v_2 x8 v_4 _ _ _ _ _ _ h hw (lv_sub hl [5, 6, 7, 8, 1, 3, 4, 2, 9, 0] rfl)
  · rw [if_neg c_1] at h
    refine lv_iload hx hb dX12_marks_133 (lv_at hl 8 rfl) ?_
    refine lv_goto (tgt := 140) hx hb dX12_marks_135 (by decide) ?_
    refine lv_istore (lv' := [(5, .int x8), (6, .int y0), (0, .ref (E.2.2 + 199)), (1, .int x1), (2, .int x2), (3, .int x3), (4, .int x4), (7, .int x7), (8, .int x8), (9, .int x9)]) hx hb dX12_marks_140 hl (by decide) rfl (fun ls hl => ?_)
    refine lv_iload hx hb dX12_marks_142 (lv_at hl 7 rfl) ?_
    refine lv_iconst (v := 1) hx hb dX12_marks_144 (by decide) ?_
    refine lv_iload hx hb dX12_marks_145 (lv_at hl 8 rfl) ?_
    refine lv_ishl hx hb dX12_marks_147 ?_
    refine lv_ior hx hb dX12_marks_148 ?_
    refine lv_istore (lv' := [(7, .int (x7 ||| (1 <<< (x8 &&& 31)))), (5, .int x8), (6, .int y0), (0, .ref (E.2.2 + 199)), (1, .int x1), (2, .int x2), (3, .int x3), (4, .int x4), (8, .int x8), (9, .int x9)]) hx hb dX12_marks_149 hl (by decide) rfl (fun ls hl => ?_)
    obtain ⟨v_5, e_5, h⟩ := nm_some h
    have hl : lv_has ls 10 [(7, .int v_5), (5, .int x8), (6, .int y0), (0, .ref (E.2.2 + 199)), (1, .int x1), (2, .int x2), (3, .int x3), (4, .int x4), (8, .int x8), (9, .int x9)] := by rw [e_5]; exact hl
    refine lv_iinc (v := x4 + 1) (lv' := [(4, .int (x4 + 1)), (7, .int v_5), (5, .int x8), (6, .int y0), (0, .ref (E.2.2 + 199)), (1, .int x1), (2, .int x2), (3, .int x3), (8, .int x8), (9, .int x9)]) hx hb dX12_marks_151 hl (k := 7) rfl rfl (by decide) rfl (fun ls hl => ?_)
    obtain ⟨v_6, e_6, h⟩ := nm_some h
    have hl : lv_has ls 10 [(4, .int v_6), (7, .int v_5), (5, .int x8), (6, .int y0), (0, .ref (E.2.2 + 199)), (1, .int x1), (2, .int x2), (3, .int x3), (8, .int x8), (9, .int x9)] := by rw [e_6]; exact hl
    refine lv_iinc (v := x9 + 1) (lv' := [(9, .int (x9 + 1)), (4, .int v_6), (7, .int v_5), (5, .int x8), (6, .int y0), (0, .ref (E.2.2 + 199)), (1, .int x1), (2, .int x2), (3, .int x3), (8, .int x8)]) hx hb dX12_marks_154 hl (k := 9) rfl rfl (by decide) rfl (fun ls hl => ?_)
    obtain ⟨v_7, e_7, h⟩ := nm_some h
    have hl : lv_has ls 10 [(9, .int v_7), (4, .int v_6), (7, .int v_5), (5, .int x8), (6, .int y0), (0, .ref (E.2.2 + 199)), (1, .int x1), (2, .int x2), (3, .int x3), (8, .int x8)] := by rw [e_7]; exact hl
    refine lv_goto (tgt := 74) hx hb dX12_marks_157 (by decide) ?_
    exact hrec_74 σ τ x1 x2 x3 v_6 x8 y0 v_5 x8 v_7 _ _ _ _ _ _ h hw (lv_sub hl [5, 6, 7, 8, 1, 3, 4, 2, 9, 0] rfl)
set_option maxHeartbeats 4000000 in
set_option maxRecDepth 100000 in
theorem k_X12_marks_74 (l : Launch) (S : CallFix P9 m9 C9 cX12_marks 10 s av.toArray gx_G RX12) (hr : meth.sig.returnType = (some .int)) (hlk : meth.locks = false) (hK : gx_K E s) (N : Nat) (rec_62 : gI → gJ → Int32 → Int32 → Int32 → Int32 → Int32 → Int32 → Int32 → Int32 → Option (Int32 × gI × gJ)) (hrec_62 : ∀ (σ : gI) (τ : gJ) (x1 : Int32) (x2 : Int32) (x3 : Int32) (x4 : Int32) (x5 : Int32) (x6 : Int32) (x7 : Int32) (x8 : Int32) (r : Int32) (σ1 : gI) (τ1 : gJ) (H : Heap) (locs : List Loc) (ls : Array Slot), rec_62 σ τ x1 x2 x3 x4 x5 x6 x7 x8 = some (r, σ1, τ1) → gx_W gx_tb gx_tb.length E s σ τ H locs → lv_has ls 10 [(0, .ref (E.2.2 + 199)), (1, .int x1), (2, .int x2), (3, .int x3), (4, .int x4), (5, .int x5), (6, .int x6), (7, .int x7), (8, .int x8)] → W P9 l e9 (gx_rm 8) s m9 av.toArray below meth C9 H locs 0 0 (gq_Qi below av s E r σ1 τ1) (F0 m9 62 ls [])) (rec_74 : gI → gJ → Int32 → Int32 → Int32 → Int32 → Int32 → Int32 → Int32 → Int32 → Int32 → Option (Int32 × gI × gJ)) (hrec_74 : ∀ (σ : gI) (τ : gJ) (x1 : Int32) (x2 : Int32) (x3 : Int32) (x4 : Int32) (x5 : Int32) (x6 : Int32) (x7 : Int32) (x8 : Int32) (x9 : Int32) (r : Int32) (σ1 : gI) (τ1 : gJ) (H : Heap) (locs : List Loc) (ls : Array Slot), rec_74 σ τ x1 x2 x3 x4 x5 x6 x7 x8 x9 = some (r, σ1, τ1) → gx_W gx_tb gx_tb.length E s σ τ H locs → lv_has ls 10 [(0, .ref (E.2.2 + 199)), (1, .int x1), (2, .int x2), (3, .int x3), (4, .int x4), (5, .int x5), (6, .int x6), (7, .int x7), (8, .int x8), (9, .int x9)] → W P9 l e9 (gx_rm 8) s m9 av.toArray below meth C9 H locs 0 0 (gq_Qi below av s E r σ1 τ1) (F0 m9 74 ls [])) (σ : gI) (τ : gJ) (x1 : Int32) (x2 : Int32) (x3 : Int32) (x4 : Int32) (x5 : Int32) (x6 : Int32) (x7 : Int32) (x8 : Int32) (x9 : Int32) {r : Int32} {σ1 : gI} {τ1 : gJ} (h : C_X12_marks_74 N rec_62 rec_74 σ τ x1 x2 x3 x4 x5 x6 x7 x8 x9 = some (r, σ1, τ1)) {H : Heap} {locs : List Loc} {ls : Array Slot} (hw : gx_W gx_tb gx_tb.length E s σ τ H locs) (hl : lv_has ls 10 [(0, .ref (E.2.2 + 199)), (1, .int x1), (2, .int x2), (3, .int x3), (4, .int x4), (5, .int x5), (6, .int x6), (7, .int x7), (8, .int x8), (9, .int x9)]) : W P9 l e9 (gx_rm 8) s m9 av.toArray below meth C9 H locs 0 0 (gq_Qi below av s E r σ1 τ1) (F0 m9 74 ls []) := by
  have hx := S.1
  have hb := S.2.1
  unfold C_X12_marks_74 at h
  refine lv_iload hx hb dX12_marks_74 (lv_at hl 9 rfl) ?_
  refine lv_bipush (v := 9) hx hb dX12_marks_76 (by decide) ?_
  refine lv_icmp_gt (tgt := 160) hx hb dX12_marks_78 (by decide) (fun c_1 => ?_) (fun c_1 => ?_)
  · rw [if_pos c_1] at h
    refine lv_iinc (v := x8 + 1) (lv' := [(8, .int (x8 + 1)), (0, .ref (E.2.2 + 199)), (1, .int x1), (2, .int x2), (3, .int x3), (4, .int x4), (5, .int x5), (6, .int x6), (7, .int x7), (9, .int x9)]) hx hb dX12_marks_160 hl (k := 8) rfl rfl (by decide) rfl (fun ls hl => ?_)
    obtain ⟨v_2, e_2, h⟩ := nm_some h
    have hl : lv_has ls 10 [(8, .int v_2), (0, .ref (E.2.2 + 199)), (1, .int x1), (2, .int x2), (3, .int x3), (4, .int x4), (5, .int x5), (6, .int x6), (7, .int x7), (9, .int x9)] := by rw [e_2]; exact hl
    refine lv_goto (tgt := 62) hx hb dX12_marks_163 (by decide) ?_
    exact hrec_62 σ τ x1 x2 x3 x4 x5 x6 x7 v_2 _ _ _ _ _ _ h hw (lv_sub hl [1, 2, 3, 4, 5, 6, 7, 8, 0] rfl)
  · rw [if_neg c_1] at h
    refine lv_aload_n hx hb dX12_marks_81 rfl (lv_at hl 0 rfl) ?_
    refine lv_iload hx hb dX12_marks_82 (lv_at hl 8 rfl) ?_
    refine lv_iload_n hx hb dX12_marks_84 rfl (lv_at hl 1 rfl) ?_
    refine lv_iload_n hx hb dX12_marks_85 rfl (lv_at hl 2 rfl) ?_
    refine lv_iload hx hb dX12_marks_86 (lv_at hl 9 rfl) ?_
    obtain ⟨r_3, σ_3, τ_3, q_3, h⟩ := bd_some h
    refine gx_cVi (As := [.int x8, .int x1, .int x2, .int x9]) (rest := []) S hK gx_ok hw (c_X12_goesAlone l (E := E) N σ τ x8 x1 x2 x9 q_3) cw_X12_399 t_199 cl_13 ⟨Nat.le_of_ble_eq_true rfl, Nat.le_of_ble_eq_true rfl⟩ rfl hl.1 rfl (Nat.le_of_ble_eq_true rfl) ⟨Nat.le_of_ble_eq_true rfl, Nat.le_of_ble_eq_true rfl⟩ dX12_marks_88 (fun r9 σ9 τ9 H locs hp hw => ?_)
    obtain ⟨rfl, rfl, rfl⟩ := hp
    refine lv_if_lt (tgt := 154) hx hb dX12_marks_91 (by decide) (fun c_4 => ?_) (fun c_4 => ?_)
    · rw [if_pos c_4] at h
      refine lv_iinc (v := x9 + 1) (lv' := [(9, .int (x9 + 1)), (0, .ref (E.2.2 + 199)), (1, .int x1), (2, .int x2), (3, .int x3), (4, .int x4), (5, .int x5), (6, .int x6), (7, .int x7), (8, .int x8)]) hx hb dX12_marks_154 hl (k := 9) rfl rfl (by decide) rfl (fun ls hl => ?_)
      obtain ⟨v_5, e_5, h⟩ := nm_some h
      have hl : lv_has ls 10 [(9, .int v_5), (0, .ref (E.2.2 + 199)), (1, .int x1), (2, .int x2), (3, .int x3), (4, .int x4), (5, .int x5), (6, .int x6), (7, .int x7), (8, .int x8)] := by rw [e_5]; exact hl
      refine lv_goto (tgt := 74) hx hb dX12_marks_157 (by decide) ?_
      exact hrec_74 σ_3 τ_3 x1 x2 x3 x4 x5 x6 x7 x8 v_5 _ _ _ _ _ _ h hw (lv_sub hl [1, 2, 3, 4, 5, 6, 7, 8, 9, 0] rfl)
    · rw [if_neg c_4] at h
      refine lv_aload_n hx hb dX12_marks_94 rfl (lv_at hl 0 rfl) ?_
      refine gx_getr (j := 224) S hK hw t_199 cl_13 44 (by decide) rfl mw_1458 rfl dX12_marks_95 ?_
      refine lv_iconst (v := 4) hx hb dX12_marks_98 (by decide) ?_
      refine gx_iald S hK hw t_224 4 rfl (gx_in rfl (by decide) (by decide)) dX12_marks_99 ?_
      refine lv_iconst (v := 1) hx hb dX12_marks_100 (by decide) ?_
      refine lv_icmp_ne (tgt := 154) hx hb dX12_marks_101 (by decide) (fun c_6 => ?_) (fun c_6 => ?_)
      · rw [if_neg c_6] at h
        refine lv_iinc (v := x9 + 1) (lv' := [(9, .int (x9 + 1)), (0, .ref (E.2.2 + 199)), (1, .int x1), (2, .int x2), (3, .int x3), (4, .int x4), (5, .int x5), (6, .int x6), (7, .int x7), (8, .int x8)]) hx hb dX12_marks_154 hl (k := 9) rfl rfl (by decide) rfl (fun ls hl => ?_)
        obtain ⟨v_7, e_7, h⟩ := nm_some h
        have hl : lv_has ls 10 [(9, .int v_7), (0, .ref (E.2.2 + 199)), (1, .int x1), (2, .int x2), (3, .int x3), (4, .int x4), (5, .int x5), (6, .int x6), (7, .int x7), (8, .int x8)] := by rw [e_7]; exact hl
        refine lv_goto (tgt := 74) hx hb dX12_marks_157 (by decide) ?_
        exact hrec_74 σ_3 τ_3 x1 x2 x3 x4 x5 x6 x7 x8 v_7 _ _ _ _ _ _ h hw (lv_sub hl [1, 2, 3, 4, 5, 6, 7, 8, 9, 0] rfl)
      · rw [if_pos c_6] at h
        refine lv_aload_n hx hb dX12_marks_104 rfl (lv_at hl 0 rfl) ?_
        refine gx_getr (j := 224) S hK hw t_199 cl_13 44 (by decide) rfl mw_1458 rfl dX12_marks_105 ?_
        refine lv_iconst (v := 3) hx hb dX12_marks_108 (by decide) ?_
        refine gx_iald S hK hw t_224 3 rfl (gx_in rfl (by decide) (by decide)) dX12_marks_109 ?_
        refine lv_iload_n hx hb dX12_marks_110 rfl (lv_at hl 3 rfl) ?_
        refine lv_icmp_ne (tgt := 154) hx hb dX12_marks_111 (by decide) (fun c_8 => ?_) (fun c_8 => ?_)
        · rw [if_neg c_8] at h
          refine lv_iinc (v := x9 + 1) (lv' := [(9, .int (x9 + 1)), (0, .ref (E.2.2 + 199)), (1, .int x1), (2, .int x2), (3, .int x3), (4, .int x4), (5, .int x5), (6, .int x6), (7, .int x7), (8, .int x8)]) hx hb dX12_marks_154 hl (k := 9) rfl rfl (by decide) rfl (fun ls hl => ?_)
          obtain ⟨v_9, e_9, h⟩ := nm_some h
          have hl : lv_has ls 10 [(9, .int v_9), (0, .ref (E.2.2 + 199)), (1, .int x1), (2, .int x2), (3, .int x3), (4, .int x4), (5, .int x5), (6, .int x6), (7, .int x7), (8, .int x8)] := by rw [e_9]; exact hl
          refine lv_goto (tgt := 74) hx hb dX12_marks_157 (by decide) ?_
          exact hrec_74 σ_3 τ_3 x1 x2 x3 x4 x5 x6 x7 x8 v_9 _ _ _ _ _ _ h hw (lv_sub hl [1, 2, 3, 4, 5, 6, 7, 8, 9, 0] rfl)
        · rw [if_pos c_8] at h
          refine lv_iload hx hb dX12_marks_114 (lv_at hl 5 rfl) ?_
          refine lv_if_ge (tgt := 124) hx hb dX12_marks_116 (by decide) (fun c_10 => ?_) (fun c_10 => ?_)
          · rw [if_pos c_10] at h
            refine lv_iload hx hb dX12_marks_124 (lv_at hl 6 rfl) ?_
            exact b_X12_marks_126 l S hr hlk hK N rec_62 hrec_62 rec_74 hrec_74 σ_3 τ_3 x1 x2 x3 x4 x5 x7 x8 x9 x6 h hw (lv_sub hl [0, 1, 2, 3, 4, 5, 7, 8, 9] rfl)
          · rw [if_neg c_10] at h
            refine lv_iload hx hb dX12_marks_119 (lv_at hl 9 rfl) ?_
            refine lv_goto (tgt := 126) hx hb dX12_marks_121 (by decide) ?_
            exact b_X12_marks_126 l S hr hlk hK N rec_62 hrec_62 rec_74 hrec_74 σ_3 τ_3 x1 x2 x3 x4 x5 x7 x8 x9 x9 h hw (lv_sub hl [0, 1, 2, 3, 4, 5, 7, 8, 9] rfl)
set_option maxHeartbeats 4000000 in
set_option maxRecDepth 100000 in
theorem h_X12_marks_74 (l : Launch) (S : CallFix P9 m9 C9 cX12_marks 10 s av.toArray gx_G RX12) (hr : meth.sig.returnType = (some .int)) (hlk : meth.locks = false) (hK : gx_K E s) (N : Nat) (rec_62 : gI → gJ → Int32 → Int32 → Int32 → Int32 → Int32 → Int32 → Int32 → Int32 → Option (Int32 × gI × gJ)) (hrec_62 : ∀ (σ : gI) (τ : gJ) (x1 : Int32) (x2 : Int32) (x3 : Int32) (x4 : Int32) (x5 : Int32) (x6 : Int32) (x7 : Int32) (x8 : Int32) (r : Int32) (σ1 : gI) (τ1 : gJ) (H : Heap) (locs : List Loc) (ls : Array Slot), rec_62 σ τ x1 x2 x3 x4 x5 x6 x7 x8 = some (r, σ1, τ1) → gx_W gx_tb gx_tb.length E s σ τ H locs → lv_has ls 10 [(0, .ref (E.2.2 + 199)), (1, .int x1), (2, .int x2), (3, .int x3), (4, .int x4), (5, .int x5), (6, .int x6), (7, .int x7), (8, .int x8)] → W P9 l e9 (gx_rm 8) s m9 av.toArray below meth C9 H locs 0 0 (gq_Qi below av s E r σ1 τ1) (F0 m9 62 ls [])) : ∀ (n : Nat) (σ : gI) (τ : gJ) (x1 : Int32) (x2 : Int32) (x3 : Int32) (x4 : Int32) (x5 : Int32) (x6 : Int32) (x7 : Int32) (x8 : Int32) (x9 : Int32) (r : Int32) (σ1 : gI) (τ1 : gJ), H_X12_marks_74 N rec_62 n σ τ x1 x2 x3 x4 x5 x6 x7 x8 x9 = some (r, σ1, τ1) → ∀ (H : Heap) (locs : List Loc) (ls : Array Slot), gx_W gx_tb gx_tb.length E s σ τ H locs → lv_has ls 10 [(0, .ref (E.2.2 + 199)), (1, .int x1), (2, .int x2), (3, .int x3), (4, .int x4), (5, .int x5), (6, .int x6), (7, .int x7), (8, .int x8), (9, .int x9)] → W P9 l e9 (gx_rm 8) s m9 av.toArray below meth C9 H locs 0 0 (gq_Qi below av s E r σ1 τ1) (F0 m9 74 ls []) := by
  intro n
  induction n with
  | zero => intro σ τ x1 x2 x3 x4 x5 x6 x7 x8 x9 r σ1 τ1 h; cases h
  | succ n ih =>
    intro σ τ x1 x2 x3 x4 x5 x6 x7 x8 x9 r σ1 τ1 h H locs ls hw hl
    exact k_X12_marks_74 l S hr hlk hK N rec_62 hrec_62 (H_X12_marks_74 N rec_62 n) (fun σ τ x1 x2 x3 x4 x5 x6 x7 x8 x9 r σ1 τ1 H locs ls h hw hl => ih σ τ x1 x2 x3 x4 x5 x6 x7 x8 x9 r σ1 τ1 h H locs ls hw hl) σ τ x1 x2 x3 x4 x5 x6 x7 x8 x9 h hw hl
set_option maxHeartbeats 4000000 in
set_option maxRecDepth 100000 in
theorem k_X12_marks_62 (l : Launch) (S : CallFix P9 m9 C9 cX12_marks 10 s av.toArray gx_G RX12) (hr : meth.sig.returnType = (some .int)) (hlk : meth.locks = false) (hK : gx_K E s) (N : Nat) (rec_62 : gI → gJ → Int32 → Int32 → Int32 → Int32 → Int32 → Int32 → Int32 → Int32 → Option (Int32 × gI × gJ)) (hrec_62 : ∀ (σ : gI) (τ : gJ) (x1 : Int32) (x2 : Int32) (x3 : Int32) (x4 : Int32) (x5 : Int32) (x6 : Int32) (x7 : Int32) (x8 : Int32) (r : Int32) (σ1 : gI) (τ1 : gJ) (H : Heap) (locs : List Loc) (ls : Array Slot), rec_62 σ τ x1 x2 x3 x4 x5 x6 x7 x8 = some (r, σ1, τ1) → gx_W gx_tb gx_tb.length E s σ τ H locs → lv_has ls 10 [(0, .ref (E.2.2 + 199)), (1, .int x1), (2, .int x2), (3, .int x3), (4, .int x4), (5, .int x5), (6, .int x6), (7, .int x7), (8, .int x8)] → W P9 l e9 (gx_rm 8) s m9 av.toArray below meth C9 H locs 0 0 (gq_Qi below av s E r σ1 τ1) (F0 m9 62 ls [])) (σ : gI) (τ : gJ) (x1 : Int32) (x2 : Int32) (x3 : Int32) (x4 : Int32) (x5 : Int32) (x6 : Int32) (x7 : Int32) (x8 : Int32) {r : Int32} {σ1 : gI} {τ1 : gJ} (h : C_X12_marks_62 N rec_62 σ τ x1 x2 x3 x4 x5 x6 x7 x8 = some (r, σ1, τ1)) {H : Heap} {locs : List Loc} {ls : Array Slot} (hw : gx_W gx_tb gx_tb.length E s σ τ H locs) (hl : lv_has ls 10 [(0, .ref (E.2.2 + 199)), (1, .int x1), (2, .int x2), (3, .int x3), (4, .int x4), (5, .int x5), (6, .int x6), (7, .int x7), (8, .int x8)]) : W P9 l e9 (gx_rm 8) s m9 av.toArray below meth C9 H locs 0 0 (gq_Qi below av s E r σ1 τ1) (F0 m9 62 ls []) := by
  have hx := S.1
  have hb := S.2.1
  unfold C_X12_marks_62 at h
  refine lv_iload hx hb dX12_marks_62 (lv_at hl 8 rfl) ?_
  refine lv_aload_n hx hb dX12_marks_64 rfl (lv_at hl 0 rfl) ?_
  refine gx_get S hK hw t_199 cl_13 3 (by decide) rfl mw_1417 rfl dX12_marks_65 ?_
  refine lv_icmp_ge (tgt := 166) hx hb dX12_marks_68 (by decide) (fun c_1 => ?_) (fun c_1 => ?_)
  · rw [if_pos c_1] at h
    refine lv_aload_n hx hb dX12_marks_166 rfl (lv_at hl 0 rfl) ?_
    refine lv_iconst (v := 0) hx hb dX12_marks_167 (by decide) ?_
    refine gx_put S hK gx_ok hw t_199 cl_13 1 (by decide) rfl mw_1415 rfl rfl (ty := .int) (v := 0) (by decide +kernel) rfl rfl dX12_marks_168 (fun H locs hw => ?_)
    obtain ⟨σ_2, e_2, h⟩ := nm_some h
    rw [← e_2] at hw
    refine lv_iload hx hb dX12_marks_171 (lv_at hl 4 rfl) ?_
    refine lv_if_le (tgt := 190) hx hb dX12_marks_173 (by decide) (fun c_3 => ?_) (fun c_3 => ?_)
    · rw [if_pos c_3] at h
      refine lv_aload_n hx hb dX12_marks_190 rfl (lv_at hl 0 rfl) ?_
      refine lv_iload hx hb dX12_marks_191 (lv_at hl 7 rfl) ?_
      refine lv_i2l (v := x7.toInt64) hx hb dX12_marks_193 rfl ?_
      obtain ⟨u_4, σ_4, τ_4, q_4, h⟩ := bd_some h
      refine gx_cVv (As := [.long x7.toInt64]) (rest := []) S hK gx_ok hw (c_X12_enters l (E := E) N σ_2 τ x7.toInt64 q_4) cw_X12_122 t_199 cl_13 ⟨Nat.le_of_ble_eq_true rfl, Nat.le_of_ble_eq_true rfl⟩ rfl hl.1 rfl (Nat.le_of_ble_eq_true rfl) ⟨Nat.le_of_ble_eq_true rfl, Nat.le_of_ble_eq_true rfl⟩ dX12_marks_194 (fun σ9 τ9 H locs hp hw => ?_)
      obtain ⟨rfl, rfl⟩ := hp
      refine lv_iload hx hb dX12_marks_197 (lv_at hl 4 rfl) ?_
      obtain ⟨rfl, rfl, rfl⟩ := sm_inj h
      exact gx_ri (post := gq_p x4 σ_4 τ_4) (v := x4) S hr hlk hw rfl dX12_marks_199 ⟨rfl, rfl, rfl⟩
    · rw [if_neg c_3] at h
      refine lv_aload_n hx hb dX12_marks_176 rfl (lv_at hl 0 rfl) ?_
      refine lv_iload hx hb dX12_marks_177 (lv_at hl 5 rfl) ?_
      refine lv_i2l (v := x5.toInt64) hx hb dX12_marks_179 rfl ?_
      obtain ⟨u_5, σ_5, τ_5, q_5, h⟩ := bd_some h
      refine gx_cVv (As := [.long x5.toInt64]) (rest := []) S hK gx_ok hw (c_X12_enters l (E := E) N σ_2 τ x5.toInt64 q_5) cw_X12_122 t_199 cl_13 ⟨Nat.le_of_ble_eq_true rfl, Nat.le_of_ble_eq_true rfl⟩ rfl hl.1 rfl (Nat.le_of_ble_eq_true rfl) ⟨Nat.le_of_ble_eq_true rfl, Nat.le_of_ble_eq_true rfl⟩ dX12_marks_180 (fun σ9 τ9 H locs hp hw => ?_)
      obtain ⟨rfl, rfl⟩ := hp
      refine lv_aload_n hx hb dX12_marks_183 rfl (lv_at hl 0 rfl) ?_
      refine lv_iload hx hb dX12_marks_184 (lv_at hl 6 rfl) ?_
      refine lv_i2l (v := x6.toInt64) hx hb dX12_marks_186 rfl ?_
      obtain ⟨u_6, σ_6, τ_6, q_6, h⟩ := bd_some h
      refine gx_cVv (As := [.long x6.toInt64]) (rest := []) S hK gx_ok hw (c_X12_enters l (E := E) N σ_5 τ_5 x6.toInt64 q_6) cw_X12_122 t_199 cl_13 ⟨Nat.le_of_ble_eq_true rfl, Nat.le_of_ble_eq_true rfl⟩ rfl hl.1 rfl (Nat.le_of_ble_eq_true rfl) ⟨Nat.le_of_ble_eq_true rfl, Nat.le_of_ble_eq_true rfl⟩ dX12_marks_187 (fun σ9 τ9 H locs hp hw => ?_)
      obtain ⟨rfl, rfl⟩ := hp
      refine lv_aload_n hx hb dX12_marks_190 rfl (lv_at hl 0 rfl) ?_
      refine lv_iload hx hb dX12_marks_191 (lv_at hl 7 rfl) ?_
      refine lv_i2l (v := x7.toInt64) hx hb dX12_marks_193 rfl ?_
      obtain ⟨u_7, σ_7, τ_7, q_7, h⟩ := bd_some h
      refine gx_cVv (As := [.long x7.toInt64]) (rest := []) S hK gx_ok hw (c_X12_enters l (E := E) N σ_6 τ_6 x7.toInt64 q_7) cw_X12_122 t_199 cl_13 ⟨Nat.le_of_ble_eq_true rfl, Nat.le_of_ble_eq_true rfl⟩ rfl hl.1 rfl (Nat.le_of_ble_eq_true rfl) ⟨Nat.le_of_ble_eq_true rfl, Nat.le_of_ble_eq_true rfl⟩ dX12_marks_194 (fun σ9 τ9 H locs hp hw => ?_)
      obtain ⟨rfl, rfl⟩ := hp
      refine lv_iload hx hb dX12_marks_197 (lv_at hl 4 rfl) ?_
      obtain ⟨rfl, rfl, rfl⟩ := sm_inj h
      exact gx_ri (post := gq_p x4 σ_7 τ_7) (v := x4) S hr hlk hw rfl dX12_marks_199 ⟨rfl, rfl, rfl⟩
  · rw [if_neg c_1] at h
    refine lv_iconst (v := 0) hx hb dX12_marks_71 (by decide) ?_
    refine lv_istore (lv' := [(9, .int 0), (0, .ref (E.2.2 + 199)), (1, .int x1), (2, .int x2), (3, .int x3), (4, .int x4), (5, .int x5), (6, .int x6), (7, .int x7), (8, .int x8)]) hx hb dX12_marks_72 hl (by decide) rfl (fun ls hl => ?_)
    exact h_X12_marks_74 l S hr hlk hK N rec_62 hrec_62 N σ τ x1 x2 x3 x4 x5 x6 x7 x8 0 _ _ _ h _ _ _ hw (lv_sub hl [1, 2, 3, 4, 5, 6, 7, 8, 9, 0] rfl)
set_option maxHeartbeats 4000000 in
set_option maxRecDepth 100000 in
theorem h_X12_marks_62 (l : Launch) (S : CallFix P9 m9 C9 cX12_marks 10 s av.toArray gx_G RX12) (hr : meth.sig.returnType = (some .int)) (hlk : meth.locks = false) (hK : gx_K E s) (N : Nat) : ∀ (n : Nat) (σ : gI) (τ : gJ) (x1 : Int32) (x2 : Int32) (x3 : Int32) (x4 : Int32) (x5 : Int32) (x6 : Int32) (x7 : Int32) (x8 : Int32) (r : Int32) (σ1 : gI) (τ1 : gJ), H_X12_marks_62 N n σ τ x1 x2 x3 x4 x5 x6 x7 x8 = some (r, σ1, τ1) → ∀ (H : Heap) (locs : List Loc) (ls : Array Slot), gx_W gx_tb gx_tb.length E s σ τ H locs → lv_has ls 10 [(0, .ref (E.2.2 + 199)), (1, .int x1), (2, .int x2), (3, .int x3), (4, .int x4), (5, .int x5), (6, .int x6), (7, .int x7), (8, .int x8)] → W P9 l e9 (gx_rm 8) s m9 av.toArray below meth C9 H locs 0 0 (gq_Qi below av s E r σ1 τ1) (F0 m9 62 ls []) := by
  intro n
  induction n with
  | zero => intro σ τ x1 x2 x3 x4 x5 x6 x7 x8 r σ1 τ1 h; cases h
  | succ n ih =>
    intro σ τ x1 x2 x3 x4 x5 x6 x7 x8 r σ1 τ1 h H locs ls hw hl
    exact k_X12_marks_62 l S hr hlk hK N (H_X12_marks_62 N n) (fun σ τ x1 x2 x3 x4 x5 x6 x7 x8 r σ1 τ1 H locs ls h hw hl => ih σ τ x1 x2 x3 x4 x5 x6 x7 x8 r σ1 τ1 h H locs ls hw hl) σ τ x1 x2 x3 x4 x5 x6 x7 x8 h hw hl
set_option maxHeartbeats 4000000 in
set_option maxRecDepth 100000 in
theorem b_X12_marks_0 (l : Launch) (S : CallFix P9 m9 C9 cX12_marks 10 s av.toArray gx_G RX12) (hr : meth.sig.returnType = (some .int)) (hlk : meth.locks = false) (hK : gx_K E s) (N : Nat) (σ : gI) (τ : gJ) (x1 : Int32) (x2 : Int32) (x3 : Int32) {r : Int32} {σ1 : gI} {τ1 : gJ} (h : B_X12_marks_0 N σ τ x1 x2 x3 = some (r, σ1, τ1)) {H : Heap} {locs : List Loc} {ls : Array Slot} (hw : gx_W gx_tb gx_tb.length E s σ τ H locs) (hl : lv_has ls 10 [(0, .ref (E.2.2 + 199)), (1, .int x1), (2, .int x2), (3, .int x3)]) : W P9 l e9 (gx_rm 8) s m9 av.toArray below meth C9 H locs 0 0 (gq_Qi below av s E r σ1 τ1) (F0 m9 0 ls []) := by
  have hx := S.1
  have hb := S.2.1
  unfold B_X12_marks_0 at h
  refine lv_aload_n hx hb dX12_marks_0 rfl (lv_at hl 0 rfl) ?_
  refine lv_iconst (v := 0) hx hb dX12_marks_1 (by decide) ?_
  refine gx_put S hK gx_ok hw t_199 cl_13 0 (by decide) rfl mw_1414 rfl rfl (ty := .int) (v := 0) (by decide +kernel) rfl rfl dX12_marks_2 (fun H locs hw => ?_)
  obtain ⟨σ_1, e_1, h⟩ := nm_some h
  rw [← e_1] at hw
  refine lv_iload_n hx hb dX12_marks_5 rfl (lv_at hl 1 rfl) ?_
  refine lv_i2l (v := x1.toInt64) hx hb dX12_marks_6 rfl ?_
  refine lv_lconst (v := 0) hx hb dX12_marks_7 (by decide) ?_
  refine lv_ldc2 (v := 99) hx hb S.2.2.2.1 (S.2.2.2.2 _ mw_1853) dX12_marks_8 ?_
  obtain ⟨r_2, σ_2, τ_2, q_2, h⟩ := bd_some h
  refine gx_cSi (As := [.long x1.toInt64, .long 0, .long 99]) (rest := []) S hK gx_ok hw (c_X12_in l (E := E) N σ_1 τ x1.toInt64 0 99 q_2) cw_X12_129 ⟨Nat.le_of_ble_eq_true rfl, Nat.le_of_ble_eq_true rfl⟩ rfl hl.1 rfl (Nat.le_of_ble_eq_true rfl) ⟨Nat.le_of_ble_eq_true rfl, Nat.le_of_ble_eq_true rfl⟩ dX12_marks_11 (fun r9 σ9 τ9 H locs hp hw => ?_)
  obtain ⟨rfl, rfl, rfl⟩ := hp
  refine lv_if_eq (tgt := 41) hx hb dX12_marks_14 (by decide) (fun c_3 => ?_) (fun c_3 => ?_)
  · rw [if_pos c_3] at h
    refine lv_iconst (v := (-1)) hx hb dX12_marks_41 (by decide) ?_
    obtain ⟨rfl, rfl, rfl⟩ := sm_inj h
    exact gx_ri (post := gq_p (-1) σ_2 τ_2) (v := (-1)) S hr hlk hw rfl dX12_marks_42 ⟨rfl, rfl, rfl⟩
  · rw [if_neg c_3] at h
    refine lv_iload_n hx hb dX12_marks_17 rfl (lv_at hl 2 rfl) ?_
    refine lv_i2l (v := x2.toInt64) hx hb dX12_marks_18 rfl ?_
    refine lv_lconst (v := 0) hx hb dX12_marks_19 (by decide) ?_
    refine lv_ldc2 (v := 9) hx hb S.2.2.2.1 (S.2.2.2.2 _ mw_1854) dX12_marks_20 ?_
    obtain ⟨r_4, σ_4, τ_4, q_4, h⟩ := bd_some h
    refine gx_cSi (As := [.long x2.toInt64, .long 0, .long 9]) (rest := []) S hK gx_ok hw (c_X12_in l (E := E) N σ_2 τ_2 x2.toInt64 0 9 q_4) cw_X12_129 ⟨Nat.le_of_ble_eq_true rfl, Nat.le_of_ble_eq_true rfl⟩ rfl hl.1 rfl (Nat.le_of_ble_eq_true rfl) ⟨Nat.le_of_ble_eq_true rfl, Nat.le_of_ble_eq_true rfl⟩ dX12_marks_23 (fun r9 σ9 τ9 H locs hp hw => ?_)
    obtain ⟨rfl, rfl, rfl⟩ := hp
    refine lv_if_eq (tgt := 41) hx hb dX12_marks_26 (by decide) (fun c_5 => ?_) (fun c_5 => ?_)
    · rw [if_pos c_5] at h
      refine lv_iconst (v := (-1)) hx hb dX12_marks_41 (by decide) ?_
      obtain ⟨rfl, rfl, rfl⟩ := sm_inj h
      exact gx_ri (post := gq_p (-1) σ_4 τ_4) (v := (-1)) S hr hlk hw rfl dX12_marks_42 ⟨rfl, rfl, rfl⟩
    · rw [if_neg c_5] at h
      refine lv_iload_n hx hb dX12_marks_29 rfl (lv_at hl 3 rfl) ?_
      refine lv_i2l (v := x3.toInt64) hx hb dX12_marks_30 rfl ?_
      refine lv_lconst (v := 0) hx hb dX12_marks_31 (by decide) ?_
      refine lv_ldc2 (v := 4095) hx hb S.2.2.2.1 (S.2.2.2.2 _ mw_2081) dX12_marks_32 ?_
      obtain ⟨r_6, σ_6, τ_6, q_6, h⟩ := bd_some h
      refine gx_cSi (As := [.long x3.toInt64, .long 0, .long 4095]) (rest := []) S hK gx_ok hw (c_X12_in l (E := E) N σ_4 τ_4 x3.toInt64 0 4095 q_6) cw_X12_129 ⟨Nat.le_of_ble_eq_true rfl, Nat.le_of_ble_eq_true rfl⟩ rfl hl.1 rfl (Nat.le_of_ble_eq_true rfl) ⟨Nat.le_of_ble_eq_true rfl, Nat.le_of_ble_eq_true rfl⟩ dX12_marks_35 (fun r9 σ9 τ9 H locs hp hw => ?_)
      obtain ⟨rfl, rfl, rfl⟩ := hp
      refine lv_if_ne (tgt := 43) hx hb dX12_marks_38 (by decide) (fun c_7 => ?_) (fun c_7 => ?_)
      · rw [if_neg c_7] at h
        refine lv_aload_n hx hb dX12_marks_43 rfl (lv_at hl 0 rfl) ?_
        obtain ⟨u_8, σ_8, τ_8, q_8, h⟩ := bd_some h
        refine gx_cVv (As := []) (rest := []) S hK gx_ok hw (c_X12_thinksNow l (E := E) N σ_6 τ_6 q_8) cw_X12_409 t_199 cl_13 ⟨Nat.le_of_ble_eq_true rfl, Nat.le_of_ble_eq_true rfl⟩ rfl hl.1 rfl (Nat.le_of_ble_eq_true rfl) ⟨Nat.le_of_ble_eq_true rfl, Nat.le_of_ble_eq_true rfl⟩ dX12_marks_44 (fun σ9 τ9 H locs hp hw => ?_)
        obtain ⟨rfl, rfl⟩ := hp
        refine lv_iconst (v := 0) hx hb dX12_marks_47 (by decide) ?_
        refine lv_istore (lv' := [(4, .int 0), (0, .ref (E.2.2 + 199)), (1, .int x1), (2, .int x2), (3, .int x3)]) hx hb dX12_marks_48 hl (by decide) rfl (fun ls hl => ?_)
        refine lv_iconst (v := (-1)) hx hb dX12_marks_50 (by decide) ?_
        refine lv_istore (lv' := [(5, .int (-1)), (4, .int 0), (0, .ref (E.2.2 + 199)), (1, .int x1), (2, .int x2), (3, .int x3)]) hx hb dX12_marks_51 hl (by decide) rfl (fun ls hl => ?_)
        refine lv_iconst (v := (-1)) hx hb dX12_marks_53 (by decide) ?_
        refine lv_istore (lv' := [(6, .int (-1)), (5, .int (-1)), (4, .int 0), (0, .ref (E.2.2 + 199)), (1, .int x1), (2, .int x2), (3, .int x3)]) hx hb dX12_marks_54 hl (by decide) rfl (fun ls hl => ?_)
        refine lv_iconst (v := 0) hx hb dX12_marks_56 (by decide) ?_
        refine lv_istore (lv' := [(7, .int 0), (6, .int (-1)), (5, .int (-1)), (4, .int 0), (0, .ref (E.2.2 + 199)), (1, .int x1), (2, .int x2), (3, .int x3)]) hx hb dX12_marks_57 hl (by decide) rfl (fun ls hl => ?_)
        refine lv_iconst (v := 0) hx hb dX12_marks_59 (by decide) ?_
        refine lv_istore (lv' := [(8, .int 0), (7, .int 0), (6, .int (-1)), (5, .int (-1)), (4, .int 0), (0, .ref (E.2.2 + 199)), (1, .int x1), (2, .int x2), (3, .int x3)]) hx hb dX12_marks_60 hl (by decide) rfl (fun ls hl => ?_)
        exact h_X12_marks_62 l S hr hlk hK N N σ_8 τ_8 x1 x2 x3 0 (-1) (-1) 0 0 _ _ _ h _ _ _ hw (lv_sub hl [5, 6, 7, 8, 4, 3, 2, 1, 0] rfl)
      · rw [if_pos c_7] at h
        refine lv_iconst (v := (-1)) hx hb dX12_marks_41 (by decide) ?_
        obtain ⟨rfl, rfl, rfl⟩ := sm_inj h
        exact gx_ri (post := gq_p (-1) σ_6 τ_6) (v := (-1)) S hr hlk hw rfl dX12_marks_42 ⟨rfl, rfl, rfl⟩
set_option maxHeartbeats 4000000 in
set_option maxRecDepth 100000 in
theorem c_X12_marks (l : Launch) {E : gE} (N : Nat) (σ : gI) (τ : gJ) (x1 : Int32) (x2 : Int32) (x3 : Int32) {r : Int32} {σ1 : gI} {τ1 : gJ} (h : B_X12_marks_0 N σ τ x1 x2 x3 = some (r, σ1, τ1)) : gx_Mi l yX12_marks cX12_marks 10 (some .int) 8 gx_tb E σ τ [.ref (E.2.2 + 199), .int x1, .int x2, .int x3] (gq_p r σ1 τ1) := by
  refine gx_bi (by decide +kernel) (Nat.le_of_ble_eq_true rfl) ?_
  intro P9 e9 s m9 below meth C9 S hr hlk hK hw ls hl
  have hl : lv_has ls 10 [(0, .ref (E.2.2 + 199)), (1, .int x1), (2, .int x2), (3, .int x3)] := hl
  exact b_X12_marks_0 l S hr hlk hK N σ τ x1 x2 x3 h hw hl
/-! X12_next -/
def C_X12_next_133 (N : Nat) (rec_49 : gI → gJ → Int32 → Int32 → Int32 → Int32 → Int32 → Option (Int32 × gI × gJ)) (rec_133 : gI → gJ → Int32 → Int32 → Int32 → Int32 → Int32 → Int32 → Int32 → Option (Int32 × gI × gJ)) (σ : gI) (τ : gJ) (x1 : Int32) (x2 : Int32) (x3 : Int32) (x4 : Int32) (x5 : Int32) (x6 : Int32) (x7 : Int32) : Option (Int32 × gI × gJ) := if 12 < x7 then (if x3 < 0 then (nm (x5 + 1) fun v_3 => rec_49 σ τ x1 x2 x5 x6 v_3) else (if x4 ≤ x6 then (nm (x5 + 1) fun v_5 => rec_49 σ τ x1 x2 x3 x4 v_5) else (nm (x5 + 1) fun v_6 => rec_49 σ τ x1 x2 x5 x6 v_6))) else (ck x7 13 fun j_7 => nm (imax x6 (σ 230 j_7)) fun v_8 => nm (x7 + 1) fun v_9 => rec_133 σ τ x1 x2 x3 x4 x5 v_8 v_9)
def H_X12_next_133 (N : Nat) (rec_49 : gI → gJ → Int32 → Int32 → Int32 → Int32 → Int32 → Option (Int32 × gI × gJ)) : Nat → gI → gJ → Int32 → Int32 → Int32 → Int32 → Int32 → Int32 → Int32 → Option (Int32 × gI × gJ) := itn (fun rec_133 => C_X12_next_133 N rec_49 rec_133) (fun _ _ _ _ _ _ _ _ _ => none)
def C_X12_next_85 (N : Nat) (rec_49 : gI → gJ → Int32 → Int32 → Int32 → Int32 → Int32 → Option (Int32 × gI × gJ)) (rec_85 : gI → gJ → Int32 → Int32 → Int32 → Int32 → Int32 → Int32 → Option (Int32 × gI × gJ)) (σ : gI) (τ : gJ) (x1 : Int32) (x2 : Int32) (x3 : Int32) (x4 : Int32) (x5 : Int32) (x6 : Int32) : Option (Int32 × gI × gJ) := if x2 < x6 then (H_X12_next_133 N rec_49 N σ τ x1 x2 x3 x4 x5 0 0) else (ck x6 4096 fun j_2 => if σ 229 j_2 = 0 then (nm (x6 + 1) fun v_4 => rec_85 σ τ x1 x2 x3 x4 x5 v_4) else (bd (B_X12_floatsTo_0 N σ τ x5 x1 x6) fun r_5 σ_5 τ_5 => ck (1 + r_5) 13 fun j_6 => nm (up2 σ_5 230 j_6 ((σ_5 230 j_6) + 1)) fun σ_7 => nm (x6 + 1) fun v_8 => rec_85 σ_7 τ_5 x1 x2 x3 x4 x5 v_8))
def H_X12_next_85 (N : Nat) (rec_49 : gI → gJ → Int32 → Int32 → Int32 → Int32 → Int32 → Option (Int32 × gI × gJ)) : Nat → gI → gJ → Int32 → Int32 → Int32 → Int32 → Int32 → Int32 → Option (Int32 × gI × gJ) := itn (fun rec_85 => C_X12_next_85 N rec_49 rec_85) (fun _ _ _ _ _ _ _ _ => none)
def C_X12_next_61 (N : Nat) (rec_49 : gI → gJ → Int32 → Int32 → Int32 → Int32 → Int32 → Option (Int32 × gI × gJ)) (rec_61 : gI → gJ → Int32 → Int32 → Int32 → Int32 → Int32 → Int32 → Option (Int32 × gI × gJ)) (σ : gI) (τ : gJ) (x1 : Int32) (x2 : Int32) (x3 : Int32) (x4 : Int32) (x5 : Int32) (x6 : Int32) : Option (Int32 × gI × gJ) := if 12 < x6 then (H_X12_next_85 N rec_49 N σ τ x1 x2 x3 x4 x5 0) else (ck x6 13 fun j_2 => nm (up2 σ 230 j_2 0) fun σ_3 => nm (x6 + 1) fun v_4 => rec_61 σ_3 τ x1 x2 x3 x4 x5 v_4)
def H_X12_next_61 (N : Nat) (rec_49 : gI → gJ → Int32 → Int32 → Int32 → Int32 → Int32 → Option (Int32 × gI × gJ)) : Nat → gI → gJ → Int32 → Int32 → Int32 → Int32 → Int32 → Int32 → Option (Int32 × gI × gJ) := itn (fun rec_61 => C_X12_next_61 N rec_49 rec_61) (fun _ _ _ _ _ _ _ _ => none)
def C_X12_next_49 (N : Nat) (rec_49 : gI → gJ → Int32 → Int32 → Int32 → Int32 → Int32 → Option (Int32 × gI × gJ)) (σ : gI) (τ : gJ) (x1 : Int32) (x2 : Int32) (x3 : Int32) (x4 : Int32) (x5 : Int32) : Option (Int32 × gI × gJ) := if σ 199 3 ≤ x5 then (nm (up2 σ 199 1 0) fun σ_2 => bd (B_X12_enters_0 N σ_2 τ x4.toInt64) fun _ σ_3 τ_3 => some (x3, σ_3, τ_3)) else (H_X12_next_61 N rec_49 N σ τ x1 x2 x3 x4 x5 0)
def H_X12_next_49 (N : Nat) : Nat → gI → gJ → Int32 → Int32 → Int32 → Int32 → Int32 → Option (Int32 × gI × gJ) := itn (fun rec_49 => C_X12_next_49 N rec_49) (fun _ _ _ _ _ _ _ => none)
def B_X12_next_0 (N : Nat) (σ : gI) (τ : gJ) (x1 : Int32) : Option (Int32 × gI × gJ) := nm (up2 σ 199 0 0) fun σ_1 => if σ_1 199 3 = 0 then (some ((-1), σ_1, τ)) else (bd (B_X12_in_0 N σ_1 τ x1.toInt64 0 999) fun r_3 σ_3 τ_3 => if r_3 = 0 then (some ((-1), σ_3, τ_3)) else (bd (B_X12_laysFits_0 N σ_3 τ_3) fun r_5 σ_5 τ_5 => if r_5 = 0 then (some ((-2), σ_5, τ_5)) else (bd (B_X12_forks_0 N σ_5 τ_5) fun r_7 σ_7 τ_7 => H_X12_next_49 N N σ_7 τ_7 x1 r_7 (-1) 0 0)))
set_option maxHeartbeats 4000000 in
set_option maxRecDepth 100000 in
theorem k_X12_next_133 (l : Launch) (S : CallFix P9 m9 C9 cX12_next 8 s av.toArray gx_G RX12) (hr : meth.sig.returnType = (some .int)) (hlk : meth.locks = false) (hK : gx_K E s) (N : Nat) (rec_49 : gI → gJ → Int32 → Int32 → Int32 → Int32 → Int32 → Option (Int32 × gI × gJ)) (hrec_49 : ∀ (σ : gI) (τ : gJ) (x1 : Int32) (x2 : Int32) (x3 : Int32) (x4 : Int32) (x5 : Int32) (r : Int32) (σ1 : gI) (τ1 : gJ) (H : Heap) (locs : List Loc) (ls : Array Slot), rec_49 σ τ x1 x2 x3 x4 x5 = some (r, σ1, τ1) → gx_W gx_tb gx_tb.length E s σ τ H locs → lv_has ls 8 [(0, .ref (E.2.2 + 199)), (1, .int x1), (2, .int x2), (3, .int x3), (4, .int x4), (5, .int x5)] → W P9 l e9 (gx_rm 10) s m9 av.toArray below meth C9 H locs 0 0 (gq_Qi below av s E r σ1 τ1) (F0 m9 49 ls [])) (rec_133 : gI → gJ → Int32 → Int32 → Int32 → Int32 → Int32 → Int32 → Int32 → Option (Int32 × gI × gJ)) (hrec_133 : ∀ (σ : gI) (τ : gJ) (x1 : Int32) (x2 : Int32) (x3 : Int32) (x4 : Int32) (x5 : Int32) (x6 : Int32) (x7 : Int32) (r : Int32) (σ1 : gI) (τ1 : gJ) (H : Heap) (locs : List Loc) (ls : Array Slot), rec_133 σ τ x1 x2 x3 x4 x5 x6 x7 = some (r, σ1, τ1) → gx_W gx_tb gx_tb.length E s σ τ H locs → lv_has ls 8 [(0, .ref (E.2.2 + 199)), (1, .int x1), (2, .int x2), (3, .int x3), (4, .int x4), (5, .int x5), (6, .int x6), (7, .int x7)] → W P9 l e9 (gx_rm 10) s m9 av.toArray below meth C9 H locs 0 0 (gq_Qi below av s E r σ1 τ1) (F0 m9 133 ls [])) (σ : gI) (τ : gJ) (x1 : Int32) (x2 : Int32) (x3 : Int32) (x4 : Int32) (x5 : Int32) (x6 : Int32) (x7 : Int32) {r : Int32} {σ1 : gI} {τ1 : gJ} (h : C_X12_next_133 N rec_49 rec_133 σ τ x1 x2 x3 x4 x5 x6 x7 = some (r, σ1, τ1)) {H : Heap} {locs : List Loc} {ls : Array Slot} (hw : gx_W gx_tb gx_tb.length E s σ τ H locs) (hl : lv_has ls 8 [(0, .ref (E.2.2 + 199)), (1, .int x1), (2, .int x2), (3, .int x3), (4, .int x4), (5, .int x5), (6, .int x6), (7, .int x7)]) : W P9 l e9 (gx_rm 10) s m9 av.toArray below meth C9 H locs 0 0 (gq_Qi below av s E r σ1 τ1) (F0 m9 133 ls []) := by
  have hx := S.1
  have hb := S.2.1
  unfold C_X12_next_133 at h
  refine lv_iload hx hb dX12_next_133 (lv_at hl 7 rfl) ?_
  refine lv_bipush (v := 12) hx hb dX12_next_135 (by decide) ?_
  refine lv_icmp_gt (tgt := 160) hx hb dX12_next_137 (by decide) (fun c_1 => ?_) (fun c_1 => ?_)
  · rw [if_pos c_1] at h
    refine lv_iload_n hx hb dX12_next_160 rfl (lv_at hl 3 rfl) ?_
    refine lv_if_lt (tgt := 171) hx hb dX12_next_161 (by decide) (fun c_2 => ?_) (fun c_2 => ?_)
    · rw [if_pos c_2] at h
      refine lv_iload hx hb dX12_next_171 (lv_at hl 5 rfl) ?_
      refine lv_istore_n (lv' := [(3, .int x5), (0, .ref (E.2.2 + 199)), (1, .int x1), (2, .int x2), (4, .int x4), (5, .int x5), (6, .int x6), (7, .int x7)]) hx hb dX12_next_173 rfl hl (by decide) rfl (fun ls hl => ?_)
      refine lv_iload hx hb dX12_next_174 (lv_at hl 6 rfl) ?_
      refine lv_istore (lv' := [(4, .int x6), (3, .int x5), (0, .ref (E.2.2 + 199)), (1, .int x1), (2, .int x2), (5, .int x5), (6, .int x6), (7, .int x7)]) hx hb dX12_next_176 hl (by decide) rfl (fun ls hl => ?_)
      refine lv_iinc (v := x5 + 1) (lv' := [(5, .int (x5 + 1)), (4, .int x6), (3, .int x5), (0, .ref (E.2.2 + 199)), (1, .int x1), (2, .int x2), (6, .int x6), (7, .int x7)]) hx hb dX12_next_178 hl (k := 5) rfl rfl (by decide) rfl (fun ls hl => ?_)
      obtain ⟨v_3, e_3, h⟩ := nm_some h
      have hl : lv_has ls 8 [(5, .int v_3), (4, .int x6), (3, .int x5), (0, .ref (E.2.2 + 199)), (1, .int x1), (2, .int x2), (6, .int x6), (7, .int x7)] := by rw [e_3]; exact hl
      refine lv_goto (tgt := 49) hx hb dX12_next_181 (by decide) ?_
      exact hrec_49 σ τ x1 x2 x5 x6 v_3 _ _ _ _ _ _ h hw (lv_sub hl [3, 4, 5, 2, 1, 0] rfl)
    · rw [if_neg c_2] at h
      refine lv_iload hx hb dX12_next_164 (lv_at hl 6 rfl) ?_
      refine lv_iload hx hb dX12_next_166 (lv_at hl 4 rfl) ?_
      refine lv_icmp_ge (tgt := 178) hx hb dX12_next_168 (by decide) (fun c_4 => ?_) (fun c_4 => ?_)
      · rw [if_pos c_4] at h
        refine lv_iinc (v := x5 + 1) (lv' := [(5, .int (x5 + 1)), (0, .ref (E.2.2 + 199)), (1, .int x1), (2, .int x2), (3, .int x3), (4, .int x4), (6, .int x6), (7, .int x7)]) hx hb dX12_next_178 hl (k := 5) rfl rfl (by decide) rfl (fun ls hl => ?_)
        obtain ⟨v_5, e_5, h⟩ := nm_some h
        have hl : lv_has ls 8 [(5, .int v_5), (0, .ref (E.2.2 + 199)), (1, .int x1), (2, .int x2), (3, .int x3), (4, .int x4), (6, .int x6), (7, .int x7)] := by rw [e_5]; exact hl
        refine lv_goto (tgt := 49) hx hb dX12_next_181 (by decide) ?_
        exact hrec_49 σ τ x1 x2 x3 x4 v_5 _ _ _ _ _ _ h hw (lv_sub hl [1, 2, 3, 4, 5, 0] rfl)
      · rw [if_neg c_4] at h
        refine lv_iload hx hb dX12_next_171 (lv_at hl 5 rfl) ?_
        refine lv_istore_n (lv' := [(3, .int x5), (0, .ref (E.2.2 + 199)), (1, .int x1), (2, .int x2), (4, .int x4), (5, .int x5), (6, .int x6), (7, .int x7)]) hx hb dX12_next_173 rfl hl (by decide) rfl (fun ls hl => ?_)
        refine lv_iload hx hb dX12_next_174 (lv_at hl 6 rfl) ?_
        refine lv_istore (lv' := [(4, .int x6), (3, .int x5), (0, .ref (E.2.2 + 199)), (1, .int x1), (2, .int x2), (5, .int x5), (6, .int x6), (7, .int x7)]) hx hb dX12_next_176 hl (by decide) rfl (fun ls hl => ?_)
        refine lv_iinc (v := x5 + 1) (lv' := [(5, .int (x5 + 1)), (4, .int x6), (3, .int x5), (0, .ref (E.2.2 + 199)), (1, .int x1), (2, .int x2), (6, .int x6), (7, .int x7)]) hx hb dX12_next_178 hl (k := 5) rfl rfl (by decide) rfl (fun ls hl => ?_)
        obtain ⟨v_6, e_6, h⟩ := nm_some h
        have hl : lv_has ls 8 [(5, .int v_6), (4, .int x6), (3, .int x5), (0, .ref (E.2.2 + 199)), (1, .int x1), (2, .int x2), (6, .int x6), (7, .int x7)] := by rw [e_6]; exact hl
        refine lv_goto (tgt := 49) hx hb dX12_next_181 (by decide) ?_
        exact hrec_49 σ τ x1 x2 x5 x6 v_6 _ _ _ _ _ _ h hw (lv_sub hl [3, 4, 5, 2, 1, 0] rfl)
  · rw [if_neg c_1] at h
    refine lv_iload hx hb dX12_next_140 (lv_at hl 6 rfl) ?_
    refine lv_aload_n hx hb dX12_next_142 rfl (lv_at hl 0 rfl) ?_
    refine gx_getr (j := 230) S hK hw t_199 cl_13 57 (by decide) rfl mw_1471 rfl dX12_next_143 ?_
    refine lv_iload hx hb dX12_next_146 (lv_at hl 7 rfl) ?_
    obtain ⟨j_7, hj_7, hi_7, h⟩ := ck_some h
    refine gx_iald S hK hw t_230 j_7 hj_7 hi_7 dX12_next_148 ?_
    refine gx_max (w := imax x6 (σ 230 j_7)) S hl.1 mw_1803 mw_577 mw_102 mw_578 ⟨Nat.le_of_ble_eq_true rfl, Nat.le_of_ble_eq_true rfl⟩ ⟨Nat.le_of_ble_eq_true rfl, Nat.le_of_ble_eq_true rfl⟩ dX12_next_149 rfl ?_
    refine lv_istore (lv' := [(6, .int (imax x6 (σ 230 j_7))), (0, .ref (E.2.2 + 199)), (1, .int x1), (2, .int x2), (3, .int x3), (4, .int x4), (5, .int x5), (7, .int x7)]) hx hb dX12_next_152 hl (by decide) rfl (fun ls hl => ?_)
    obtain ⟨v_8, e_8, h⟩ := nm_some h
    have hl : lv_has ls 8 [(6, .int v_8), (0, .ref (E.2.2 + 199)), (1, .int x1), (2, .int x2), (3, .int x3), (4, .int x4), (5, .int x5), (7, .int x7)] := by rw [e_8]; exact hl
    refine lv_iinc (v := x7 + 1) (lv' := [(7, .int (x7 + 1)), (6, .int v_8), (0, .ref (E.2.2 + 199)), (1, .int x1), (2, .int x2), (3, .int x3), (4, .int x4), (5, .int x5)]) hx hb dX12_next_154 hl (k := 7) rfl rfl (by decide) rfl (fun ls hl => ?_)
    obtain ⟨v_9, e_9, h⟩ := nm_some h
    have hl : lv_has ls 8 [(7, .int v_9), (6, .int v_8), (0, .ref (E.2.2 + 199)), (1, .int x1), (2, .int x2), (3, .int x3), (4, .int x4), (5, .int x5)] := by rw [e_9]; exact hl
    refine lv_goto (tgt := 133) hx hb dX12_next_157 (by decide) ?_
    exact hrec_133 σ τ x1 x2 x3 x4 x5 v_8 v_9 _ _ _ _ _ _ h hw (lv_sub hl [2, 3, 4, 5, 6, 7, 1, 0] rfl)
set_option maxHeartbeats 4000000 in
set_option maxRecDepth 100000 in
theorem h_X12_next_133 (l : Launch) (S : CallFix P9 m9 C9 cX12_next 8 s av.toArray gx_G RX12) (hr : meth.sig.returnType = (some .int)) (hlk : meth.locks = false) (hK : gx_K E s) (N : Nat) (rec_49 : gI → gJ → Int32 → Int32 → Int32 → Int32 → Int32 → Option (Int32 × gI × gJ)) (hrec_49 : ∀ (σ : gI) (τ : gJ) (x1 : Int32) (x2 : Int32) (x3 : Int32) (x4 : Int32) (x5 : Int32) (r : Int32) (σ1 : gI) (τ1 : gJ) (H : Heap) (locs : List Loc) (ls : Array Slot), rec_49 σ τ x1 x2 x3 x4 x5 = some (r, σ1, τ1) → gx_W gx_tb gx_tb.length E s σ τ H locs → lv_has ls 8 [(0, .ref (E.2.2 + 199)), (1, .int x1), (2, .int x2), (3, .int x3), (4, .int x4), (5, .int x5)] → W P9 l e9 (gx_rm 10) s m9 av.toArray below meth C9 H locs 0 0 (gq_Qi below av s E r σ1 τ1) (F0 m9 49 ls [])) : ∀ (n : Nat) (σ : gI) (τ : gJ) (x1 : Int32) (x2 : Int32) (x3 : Int32) (x4 : Int32) (x5 : Int32) (x6 : Int32) (x7 : Int32) (r : Int32) (σ1 : gI) (τ1 : gJ), H_X12_next_133 N rec_49 n σ τ x1 x2 x3 x4 x5 x6 x7 = some (r, σ1, τ1) → ∀ (H : Heap) (locs : List Loc) (ls : Array Slot), gx_W gx_tb gx_tb.length E s σ τ H locs → lv_has ls 8 [(0, .ref (E.2.2 + 199)), (1, .int x1), (2, .int x2), (3, .int x3), (4, .int x4), (5, .int x5), (6, .int x6), (7, .int x7)] → W P9 l e9 (gx_rm 10) s m9 av.toArray below meth C9 H locs 0 0 (gq_Qi below av s E r σ1 τ1) (F0 m9 133 ls []) := by
  intro n
  induction n with
  | zero => intro σ τ x1 x2 x3 x4 x5 x6 x7 r σ1 τ1 h; cases h
  | succ n ih =>
    intro σ τ x1 x2 x3 x4 x5 x6 x7 r σ1 τ1 h H locs ls hw hl
    exact k_X12_next_133 l S hr hlk hK N rec_49 hrec_49 (H_X12_next_133 N rec_49 n) (fun σ τ x1 x2 x3 x4 x5 x6 x7 r σ1 τ1 H locs ls h hw hl => ih σ τ x1 x2 x3 x4 x5 x6 x7 r σ1 τ1 h H locs ls hw hl) σ τ x1 x2 x3 x4 x5 x6 x7 h hw hl
set_option maxHeartbeats 4000000 in
set_option maxRecDepth 100000 in
theorem k_X12_next_85 (l : Launch) (S : CallFix P9 m9 C9 cX12_next 8 s av.toArray gx_G RX12) (hr : meth.sig.returnType = (some .int)) (hlk : meth.locks = false) (hK : gx_K E s) (N : Nat) (rec_49 : gI → gJ → Int32 → Int32 → Int32 → Int32 → Int32 → Option (Int32 × gI × gJ)) (hrec_49 : ∀ (σ : gI) (τ : gJ) (x1 : Int32) (x2 : Int32) (x3 : Int32) (x4 : Int32) (x5 : Int32) (r : Int32) (σ1 : gI) (τ1 : gJ) (H : Heap) (locs : List Loc) (ls : Array Slot), rec_49 σ τ x1 x2 x3 x4 x5 = some (r, σ1, τ1) → gx_W gx_tb gx_tb.length E s σ τ H locs → lv_has ls 8 [(0, .ref (E.2.2 + 199)), (1, .int x1), (2, .int x2), (3, .int x3), (4, .int x4), (5, .int x5)] → W P9 l e9 (gx_rm 10) s m9 av.toArray below meth C9 H locs 0 0 (gq_Qi below av s E r σ1 τ1) (F0 m9 49 ls [])) (rec_85 : gI → gJ → Int32 → Int32 → Int32 → Int32 → Int32 → Int32 → Option (Int32 × gI × gJ)) (hrec_85 : ∀ (σ : gI) (τ : gJ) (x1 : Int32) (x2 : Int32) (x3 : Int32) (x4 : Int32) (x5 : Int32) (x6 : Int32) (r : Int32) (σ1 : gI) (τ1 : gJ) (H : Heap) (locs : List Loc) (ls : Array Slot), rec_85 σ τ x1 x2 x3 x4 x5 x6 = some (r, σ1, τ1) → gx_W gx_tb gx_tb.length E s σ τ H locs → lv_has ls 8 [(0, .ref (E.2.2 + 199)), (1, .int x1), (2, .int x2), (3, .int x3), (4, .int x4), (5, .int x5), (6, .int x6)] → W P9 l e9 (gx_rm 10) s m9 av.toArray below meth C9 H locs 0 0 (gq_Qi below av s E r σ1 τ1) (F0 m9 85 ls [])) (σ : gI) (τ : gJ) (x1 : Int32) (x2 : Int32) (x3 : Int32) (x4 : Int32) (x5 : Int32) (x6 : Int32) {r : Int32} {σ1 : gI} {τ1 : gJ} (h : C_X12_next_85 N rec_49 rec_85 σ τ x1 x2 x3 x4 x5 x6 = some (r, σ1, τ1)) {H : Heap} {locs : List Loc} {ls : Array Slot} (hw : gx_W gx_tb gx_tb.length E s σ τ H locs) (hl : lv_has ls 8 [(0, .ref (E.2.2 + 199)), (1, .int x1), (2, .int x2), (3, .int x3), (4, .int x4), (5, .int x5), (6, .int x6)]) : W P9 l e9 (gx_rm 10) s m9 av.toArray below meth C9 H locs 0 0 (gq_Qi below av s E r σ1 τ1) (F0 m9 85 ls []) := by
  have hx := S.1
  have hb := S.2.1
  unfold C_X12_next_85 at h
  refine lv_iload hx hb dX12_next_85 (lv_at hl 6 rfl) ?_
  refine lv_iload_n hx hb dX12_next_87 rfl (lv_at hl 2 rfl) ?_
  refine lv_icmp_gt (tgt := 127) hx hb dX12_next_88 (by decide) (fun c_1 => ?_) (fun c_1 => ?_)
  · rw [if_pos c_1] at h
    refine lv_iconst (v := 0) hx hb dX12_next_127 (by decide) ?_
    refine lv_istore (lv' := [(6, .int 0), (0, .ref (E.2.2 + 199)), (1, .int x1), (2, .int x2), (3, .int x3), (4, .int x4), (5, .int x5)]) hx hb dX12_next_128 hl (by decide) rfl (fun ls hl => ?_)
    refine lv_iconst (v := 0) hx hb dX12_next_130 (by decide) ?_
    refine lv_istore (lv' := [(7, .int 0), (6, .int 0), (0, .ref (E.2.2 + 199)), (1, .int x1), (2, .int x2), (3, .int x3), (4, .int x4), (5, .int x5)]) hx hb dX12_next_131 hl (by decide) rfl (fun ls hl => ?_)
    exact h_X12_next_133 l S hr hlk hK N rec_49 hrec_49 N σ τ x1 x2 x3 x4 x5 0 0 _ _ _ h _ _ _ hw (lv_sub hl [2, 3, 4, 5, 6, 7, 1, 0] rfl)
  · rw [if_neg c_1] at h
    refine lv_aload_n hx hb dX12_next_91 rfl (lv_at hl 0 rfl) ?_
    refine gx_getr (j := 229) S hK hw t_199 cl_13 56 (by decide) rfl mw_1470 rfl dX12_next_92 ?_
    refine lv_iload hx hb dX12_next_95 (lv_at hl 6 rfl) ?_
    obtain ⟨j_2, hj_2, hi_2, h⟩ := ck_some h
    refine gx_zald S hK hw t_229 j_2 hj_2 hi_2 dX12_next_97 ?_
    refine lv_if_eq (tgt := 121) hx hb dX12_next_98 (by decide) (fun c_3 => ?_) (fun c_3 => ?_)
    · rw [if_pos c_3] at h
      refine lv_iinc (v := x6 + 1) (lv' := [(6, .int (x6 + 1)), (0, .ref (E.2.2 + 199)), (1, .int x1), (2, .int x2), (3, .int x3), (4, .int x4), (5, .int x5)]) hx hb dX12_next_121 hl (k := 6) rfl rfl (by decide) rfl (fun ls hl => ?_)
      obtain ⟨v_4, e_4, h⟩ := nm_some h
      have hl : lv_has ls 8 [(6, .int v_4), (0, .ref (E.2.2 + 199)), (1, .int x1), (2, .int x2), (3, .int x3), (4, .int x4), (5, .int x5)] := by rw [e_4]; exact hl
      refine lv_goto (tgt := 85) hx hb dX12_next_124 (by decide) ?_
      exact hrec_85 σ τ x1 x2 x3 x4 x5 v_4 _ _ _ _ _ _ h hw (lv_sub hl [1, 2, 3, 4, 5, 6, 0] rfl)
    · rw [if_neg c_3] at h
      refine lv_aload_n hx hb dX12_next_101 rfl (lv_at hl 0 rfl) ?_
      refine gx_getr (j := 230) S hK hw t_199 cl_13 57 (by decide) rfl mw_1471 rfl dX12_next_102 ?_
      refine lv_iconst (v := 1) hx hb dX12_next_105 (by decide) ?_
      refine lv_aload_n hx hb dX12_next_106 rfl (lv_at hl 0 rfl) ?_
      refine lv_iload hx hb dX12_next_107 (lv_at hl 5 rfl) ?_
      refine lv_iload_n hx hb dX12_next_109 rfl (lv_at hl 1 rfl) ?_
      refine lv_iload hx hb dX12_next_110 (lv_at hl 6 rfl) ?_
      obtain ⟨r_5, σ_5, τ_5, q_5, h⟩ := bd_some h
      refine gx_cVi (As := [.int x5, .int x1, .int x6]) (rest := [.int 1, .ref (E.2.2 + 230)]) S hK gx_ok hw (c_X12_floatsTo l (E := E) N σ τ x5 x1 x6 q_5) cw_X12_445 t_199 cl_13 ⟨Nat.le_of_ble_eq_true rfl, Nat.le_of_ble_eq_true rfl⟩ rfl hl.1 rfl (Nat.le_of_ble_eq_true rfl) ⟨Nat.le_of_ble_eq_true rfl, Nat.le_of_ble_eq_true rfl⟩ dX12_next_112 (fun r9 σ9 τ9 H locs hp hw => ?_)
      obtain ⟨rfl, rfl, rfl⟩ := hp
      refine lv_iadd hx hb dX12_next_115 ?_
      refine lv_dup2_11 hx hb dX12_next_116 rfl rfl ?_
      obtain ⟨j_6, hj_6, hi_6, h⟩ := ck_some h
      refine gx_iald S hK hw t_230 j_6 hj_6 hi_6 dX12_next_117 ?_
      refine lv_iconst (v := 1) hx hb dX12_next_118 (by decide) ?_
      refine lv_iadd hx hb dX12_next_119 ?_
      refine gx_iast S hK gx_ok hw t_230 j_6 hj_6 hi_6 dX12_next_120 (fun H locs hw => ?_)
      obtain ⟨σ_7, e_7, h⟩ := nm_some h
      rw [← e_7] at hw
      refine lv_iinc (v := x6 + 1) (lv' := [(6, .int (x6 + 1)), (0, .ref (E.2.2 + 199)), (1, .int x1), (2, .int x2), (3, .int x3), (4, .int x4), (5, .int x5)]) hx hb dX12_next_121 hl (k := 6) rfl rfl (by decide) rfl (fun ls hl => ?_)
      obtain ⟨v_8, e_8, h⟩ := nm_some h
      have hl : lv_has ls 8 [(6, .int v_8), (0, .ref (E.2.2 + 199)), (1, .int x1), (2, .int x2), (3, .int x3), (4, .int x4), (5, .int x5)] := by rw [e_8]; exact hl
      refine lv_goto (tgt := 85) hx hb dX12_next_124 (by decide) ?_
      exact hrec_85 σ_7 τ_5 x1 x2 x3 x4 x5 v_8 _ _ _ _ _ _ h hw (lv_sub hl [1, 2, 3, 4, 5, 6, 0] rfl)
set_option maxHeartbeats 4000000 in
set_option maxRecDepth 100000 in
theorem h_X12_next_85 (l : Launch) (S : CallFix P9 m9 C9 cX12_next 8 s av.toArray gx_G RX12) (hr : meth.sig.returnType = (some .int)) (hlk : meth.locks = false) (hK : gx_K E s) (N : Nat) (rec_49 : gI → gJ → Int32 → Int32 → Int32 → Int32 → Int32 → Option (Int32 × gI × gJ)) (hrec_49 : ∀ (σ : gI) (τ : gJ) (x1 : Int32) (x2 : Int32) (x3 : Int32) (x4 : Int32) (x5 : Int32) (r : Int32) (σ1 : gI) (τ1 : gJ) (H : Heap) (locs : List Loc) (ls : Array Slot), rec_49 σ τ x1 x2 x3 x4 x5 = some (r, σ1, τ1) → gx_W gx_tb gx_tb.length E s σ τ H locs → lv_has ls 8 [(0, .ref (E.2.2 + 199)), (1, .int x1), (2, .int x2), (3, .int x3), (4, .int x4), (5, .int x5)] → W P9 l e9 (gx_rm 10) s m9 av.toArray below meth C9 H locs 0 0 (gq_Qi below av s E r σ1 τ1) (F0 m9 49 ls [])) : ∀ (n : Nat) (σ : gI) (τ : gJ) (x1 : Int32) (x2 : Int32) (x3 : Int32) (x4 : Int32) (x5 : Int32) (x6 : Int32) (r : Int32) (σ1 : gI) (τ1 : gJ), H_X12_next_85 N rec_49 n σ τ x1 x2 x3 x4 x5 x6 = some (r, σ1, τ1) → ∀ (H : Heap) (locs : List Loc) (ls : Array Slot), gx_W gx_tb gx_tb.length E s σ τ H locs → lv_has ls 8 [(0, .ref (E.2.2 + 199)), (1, .int x1), (2, .int x2), (3, .int x3), (4, .int x4), (5, .int x5), (6, .int x6)] → W P9 l e9 (gx_rm 10) s m9 av.toArray below meth C9 H locs 0 0 (gq_Qi below av s E r σ1 τ1) (F0 m9 85 ls []) := by
  intro n
  induction n with
  | zero => intro σ τ x1 x2 x3 x4 x5 x6 r σ1 τ1 h; cases h
  | succ n ih =>
    intro σ τ x1 x2 x3 x4 x5 x6 r σ1 τ1 h H locs ls hw hl
    exact k_X12_next_85 l S hr hlk hK N rec_49 hrec_49 (H_X12_next_85 N rec_49 n) (fun σ τ x1 x2 x3 x4 x5 x6 r σ1 τ1 H locs ls h hw hl => ih σ τ x1 x2 x3 x4 x5 x6 r σ1 τ1 h H locs ls hw hl) σ τ x1 x2 x3 x4 x5 x6 h hw hl
set_option maxHeartbeats 4000000 in
set_option maxRecDepth 100000 in
theorem k_X12_next_61 (l : Launch) (S : CallFix P9 m9 C9 cX12_next 8 s av.toArray gx_G RX12) (hr : meth.sig.returnType = (some .int)) (hlk : meth.locks = false) (hK : gx_K E s) (N : Nat) (rec_49 : gI → gJ → Int32 → Int32 → Int32 → Int32 → Int32 → Option (Int32 × gI × gJ)) (hrec_49 : ∀ (σ : gI) (τ : gJ) (x1 : Int32) (x2 : Int32) (x3 : Int32) (x4 : Int32) (x5 : Int32) (r : Int32) (σ1 : gI) (τ1 : gJ) (H : Heap) (locs : List Loc) (ls : Array Slot), rec_49 σ τ x1 x2 x3 x4 x5 = some (r, σ1, τ1) → gx_W gx_tb gx_tb.length E s σ τ H locs → lv_has ls 8 [(0, .ref (E.2.2 + 199)), (1, .int x1), (2, .int x2), (3, .int x3), (4, .int x4), (5, .int x5)] → W P9 l e9 (gx_rm 10) s m9 av.toArray below meth C9 H locs 0 0 (gq_Qi below av s E r σ1 τ1) (F0 m9 49 ls [])) (rec_61 : gI → gJ → Int32 → Int32 → Int32 → Int32 → Int32 → Int32 → Option (Int32 × gI × gJ)) (hrec_61 : ∀ (σ : gI) (τ : gJ) (x1 : Int32) (x2 : Int32) (x3 : Int32) (x4 : Int32) (x5 : Int32) (x6 : Int32) (r : Int32) (σ1 : gI) (τ1 : gJ) (H : Heap) (locs : List Loc) (ls : Array Slot), rec_61 σ τ x1 x2 x3 x4 x5 x6 = some (r, σ1, τ1) → gx_W gx_tb gx_tb.length E s σ τ H locs → lv_has ls 8 [(0, .ref (E.2.2 + 199)), (1, .int x1), (2, .int x2), (3, .int x3), (4, .int x4), (5, .int x5), (6, .int x6)] → W P9 l e9 (gx_rm 10) s m9 av.toArray below meth C9 H locs 0 0 (gq_Qi below av s E r σ1 τ1) (F0 m9 61 ls [])) (σ : gI) (τ : gJ) (x1 : Int32) (x2 : Int32) (x3 : Int32) (x4 : Int32) (x5 : Int32) (x6 : Int32) {r : Int32} {σ1 : gI} {τ1 : gJ} (h : C_X12_next_61 N rec_49 rec_61 σ τ x1 x2 x3 x4 x5 x6 = some (r, σ1, τ1)) {H : Heap} {locs : List Loc} {ls : Array Slot} (hw : gx_W gx_tb gx_tb.length E s σ τ H locs) (hl : lv_has ls 8 [(0, .ref (E.2.2 + 199)), (1, .int x1), (2, .int x2), (3, .int x3), (4, .int x4), (5, .int x5), (6, .int x6)]) : W P9 l e9 (gx_rm 10) s m9 av.toArray below meth C9 H locs 0 0 (gq_Qi below av s E r σ1 τ1) (F0 m9 61 ls []) := by
  have hx := S.1
  have hb := S.2.1
  unfold C_X12_next_61 at h
  refine lv_iload hx hb dX12_next_61 (lv_at hl 6 rfl) ?_
  refine lv_bipush (v := 12) hx hb dX12_next_63 (by decide) ?_
  refine lv_icmp_gt (tgt := 82) hx hb dX12_next_65 (by decide) (fun c_1 => ?_) (fun c_1 => ?_)
  · rw [if_pos c_1] at h
    refine lv_iconst (v := 0) hx hb dX12_next_82 (by decide) ?_
    refine lv_istore (lv' := [(6, .int 0), (0, .ref (E.2.2 + 199)), (1, .int x1), (2, .int x2), (3, .int x3), (4, .int x4), (5, .int x5)]) hx hb dX12_next_83 hl (by decide) rfl (fun ls hl => ?_)
    exact h_X12_next_85 l S hr hlk hK N rec_49 hrec_49 N σ τ x1 x2 x3 x4 x5 0 _ _ _ h _ _ _ hw (lv_sub hl [1, 2, 3, 4, 5, 6, 0] rfl)
  · rw [if_neg c_1] at h
    refine lv_aload_n hx hb dX12_next_68 rfl (lv_at hl 0 rfl) ?_
    refine gx_getr (j := 230) S hK hw t_199 cl_13 57 (by decide) rfl mw_1471 rfl dX12_next_69 ?_
    refine lv_iload hx hb dX12_next_72 (lv_at hl 6 rfl) ?_
    refine lv_iconst (v := 0) hx hb dX12_next_74 (by decide) ?_
    obtain ⟨j_2, hj_2, hi_2, h⟩ := ck_some h
    refine gx_iast S hK gx_ok hw t_230 j_2 hj_2 hi_2 dX12_next_75 (fun H locs hw => ?_)
    obtain ⟨σ_3, e_3, h⟩ := nm_some h
    rw [← e_3] at hw
    refine lv_iinc (v := x6 + 1) (lv' := [(6, .int (x6 + 1)), (0, .ref (E.2.2 + 199)), (1, .int x1), (2, .int x2), (3, .int x3), (4, .int x4), (5, .int x5)]) hx hb dX12_next_76 hl (k := 6) rfl rfl (by decide) rfl (fun ls hl => ?_)
    obtain ⟨v_4, e_4, h⟩ := nm_some h
    have hl : lv_has ls 8 [(6, .int v_4), (0, .ref (E.2.2 + 199)), (1, .int x1), (2, .int x2), (3, .int x3), (4, .int x4), (5, .int x5)] := by rw [e_4]; exact hl
    refine lv_goto (tgt := 61) hx hb dX12_next_79 (by decide) ?_
    exact hrec_61 σ_3 τ x1 x2 x3 x4 x5 v_4 _ _ _ _ _ _ h hw (lv_sub hl [1, 2, 3, 4, 5, 6, 0] rfl)
set_option maxHeartbeats 4000000 in
set_option maxRecDepth 100000 in
theorem h_X12_next_61 (l : Launch) (S : CallFix P9 m9 C9 cX12_next 8 s av.toArray gx_G RX12) (hr : meth.sig.returnType = (some .int)) (hlk : meth.locks = false) (hK : gx_K E s) (N : Nat) (rec_49 : gI → gJ → Int32 → Int32 → Int32 → Int32 → Int32 → Option (Int32 × gI × gJ)) (hrec_49 : ∀ (σ : gI) (τ : gJ) (x1 : Int32) (x2 : Int32) (x3 : Int32) (x4 : Int32) (x5 : Int32) (r : Int32) (σ1 : gI) (τ1 : gJ) (H : Heap) (locs : List Loc) (ls : Array Slot), rec_49 σ τ x1 x2 x3 x4 x5 = some (r, σ1, τ1) → gx_W gx_tb gx_tb.length E s σ τ H locs → lv_has ls 8 [(0, .ref (E.2.2 + 199)), (1, .int x1), (2, .int x2), (3, .int x3), (4, .int x4), (5, .int x5)] → W P9 l e9 (gx_rm 10) s m9 av.toArray below meth C9 H locs 0 0 (gq_Qi below av s E r σ1 τ1) (F0 m9 49 ls [])) : ∀ (n : Nat) (σ : gI) (τ : gJ) (x1 : Int32) (x2 : Int32) (x3 : Int32) (x4 : Int32) (x5 : Int32) (x6 : Int32) (r : Int32) (σ1 : gI) (τ1 : gJ), H_X12_next_61 N rec_49 n σ τ x1 x2 x3 x4 x5 x6 = some (r, σ1, τ1) → ∀ (H : Heap) (locs : List Loc) (ls : Array Slot), gx_W gx_tb gx_tb.length E s σ τ H locs → lv_has ls 8 [(0, .ref (E.2.2 + 199)), (1, .int x1), (2, .int x2), (3, .int x3), (4, .int x4), (5, .int x5), (6, .int x6)] → W P9 l e9 (gx_rm 10) s m9 av.toArray below meth C9 H locs 0 0 (gq_Qi below av s E r σ1 τ1) (F0 m9 61 ls []) := by
  intro n
  induction n with
  | zero => intro σ τ x1 x2 x3 x4 x5 x6 r σ1 τ1 h; cases h
  | succ n ih =>
    intro σ τ x1 x2 x3 x4 x5 x6 r σ1 τ1 h H locs ls hw hl
    exact k_X12_next_61 l S hr hlk hK N rec_49 hrec_49 (H_X12_next_61 N rec_49 n) (fun σ τ x1 x2 x3 x4 x5 x6 r σ1 τ1 H locs ls h hw hl => ih σ τ x1 x2 x3 x4 x5 x6 r σ1 τ1 h H locs ls hw hl) σ τ x1 x2 x3 x4 x5 x6 h hw hl
set_option maxHeartbeats 4000000 in
set_option maxRecDepth 100000 in
theorem k_X12_next_49 (l : Launch) (S : CallFix P9 m9 C9 cX12_next 8 s av.toArray gx_G RX12) (hr : meth.sig.returnType = (some .int)) (hlk : meth.locks = false) (hK : gx_K E s) (N : Nat) (rec_49 : gI → gJ → Int32 → Int32 → Int32 → Int32 → Int32 → Option (Int32 × gI × gJ)) (hrec_49 : ∀ (σ : gI) (τ : gJ) (x1 : Int32) (x2 : Int32) (x3 : Int32) (x4 : Int32) (x5 : Int32) (r : Int32) (σ1 : gI) (τ1 : gJ) (H : Heap) (locs : List Loc) (ls : Array Slot), rec_49 σ τ x1 x2 x3 x4 x5 = some (r, σ1, τ1) → gx_W gx_tb gx_tb.length E s σ τ H locs → lv_has ls 8 [(0, .ref (E.2.2 + 199)), (1, .int x1), (2, .int x2), (3, .int x3), (4, .int x4), (5, .int x5)] → W P9 l e9 (gx_rm 10) s m9 av.toArray below meth C9 H locs 0 0 (gq_Qi below av s E r σ1 τ1) (F0 m9 49 ls [])) (σ : gI) (τ : gJ) (x1 : Int32) (x2 : Int32) (x3 : Int32) (x4 : Int32) (x5 : Int32) {r : Int32} {σ1 : gI} {τ1 : gJ} (h : C_X12_next_49 N rec_49 σ τ x1 x2 x3 x4 x5 = some (r, σ1, τ1)) {H : Heap} {locs : List Loc} {ls : Array Slot} (hw : gx_W gx_tb gx_tb.length E s σ τ H locs) (hl : lv_has ls 8 [(0, .ref (E.2.2 + 199)), (1, .int x1), (2, .int x2), (3, .int x3), (4, .int x4), (5, .int x5)]) : W P9 l e9 (gx_rm 10) s m9 av.toArray below meth C9 H locs 0 0 (gq_Qi below av s E r σ1 τ1) (F0 m9 49 ls []) := by
  have hx := S.1
  have hb := S.2.1
  unfold C_X12_next_49 at h
  refine lv_iload hx hb dX12_next_49 (lv_at hl 5 rfl) ?_
  refine lv_aload_n hx hb dX12_next_51 rfl (lv_at hl 0 rfl) ?_
  refine gx_get S hK hw t_199 cl_13 3 (by decide) rfl mw_1417 rfl dX12_next_52 ?_
  refine lv_icmp_ge (tgt := 184) hx hb dX12_next_55 (by decide) (fun c_1 => ?_) (fun c_1 => ?_)
  · rw [if_pos c_1] at h
    refine lv_aload_n hx hb dX12_next_184 rfl (lv_at hl 0 rfl) ?_
    refine lv_iconst (v := 0) hx hb dX12_next_185 (by decide) ?_
    refine gx_put S hK gx_ok hw t_199 cl_13 1 (by decide) rfl mw_1415 rfl rfl (ty := .int) (v := 0) (by decide +kernel) rfl rfl dX12_next_186 (fun H locs hw => ?_)
    obtain ⟨σ_2, e_2, h⟩ := nm_some h
    rw [← e_2] at hw
    refine lv_aload_n hx hb dX12_next_189 rfl (lv_at hl 0 rfl) ?_
    refine lv_iload hx hb dX12_next_190 (lv_at hl 4 rfl) ?_
    refine lv_i2l (v := x4.toInt64) hx hb dX12_next_192 rfl ?_
    obtain ⟨u_3, σ_3, τ_3, q_3, h⟩ := bd_some h
    refine gx_cVv (As := [.long x4.toInt64]) (rest := []) S hK gx_ok hw (c_X12_enters l (E := E) N σ_2 τ x4.toInt64 q_3) cw_X12_122 t_199 cl_13 ⟨Nat.le_of_ble_eq_true rfl, Nat.le_of_ble_eq_true rfl⟩ rfl hl.1 rfl (Nat.le_of_ble_eq_true rfl) ⟨Nat.le_of_ble_eq_true rfl, Nat.le_of_ble_eq_true rfl⟩ dX12_next_193 (fun σ9 τ9 H locs hp hw => ?_)
    obtain ⟨rfl, rfl⟩ := hp
    refine lv_iload_n hx hb dX12_next_196 rfl (lv_at hl 3 rfl) ?_
    obtain ⟨rfl, rfl, rfl⟩ := sm_inj h
    exact gx_ri (post := gq_p x3 σ_3 τ_3) (v := x3) S hr hlk hw rfl dX12_next_197 ⟨rfl, rfl, rfl⟩
  · rw [if_neg c_1] at h
    refine lv_iconst (v := 0) hx hb dX12_next_58 (by decide) ?_
    refine lv_istore (lv' := [(6, .int 0), (0, .ref (E.2.2 + 199)), (1, .int x1), (2, .int x2), (3, .int x3), (4, .int x4), (5, .int x5)]) hx hb dX12_next_59 hl (by decide) rfl (fun ls hl => ?_)
    exact h_X12_next_61 l S hr hlk hK N rec_49 hrec_49 N σ τ x1 x2 x3 x4 x5 0 _ _ _ h _ _ _ hw (lv_sub hl [1, 2, 3, 4, 5, 6, 0] rfl)
set_option maxHeartbeats 4000000 in
set_option maxRecDepth 100000 in
theorem h_X12_next_49 (l : Launch) (S : CallFix P9 m9 C9 cX12_next 8 s av.toArray gx_G RX12) (hr : meth.sig.returnType = (some .int)) (hlk : meth.locks = false) (hK : gx_K E s) (N : Nat) : ∀ (n : Nat) (σ : gI) (τ : gJ) (x1 : Int32) (x2 : Int32) (x3 : Int32) (x4 : Int32) (x5 : Int32) (r : Int32) (σ1 : gI) (τ1 : gJ), H_X12_next_49 N n σ τ x1 x2 x3 x4 x5 = some (r, σ1, τ1) → ∀ (H : Heap) (locs : List Loc) (ls : Array Slot), gx_W gx_tb gx_tb.length E s σ τ H locs → lv_has ls 8 [(0, .ref (E.2.2 + 199)), (1, .int x1), (2, .int x2), (3, .int x3), (4, .int x4), (5, .int x5)] → W P9 l e9 (gx_rm 10) s m9 av.toArray below meth C9 H locs 0 0 (gq_Qi below av s E r σ1 τ1) (F0 m9 49 ls []) := by
  intro n
  induction n with
  | zero => intro σ τ x1 x2 x3 x4 x5 r σ1 τ1 h; cases h
  | succ n ih =>
    intro σ τ x1 x2 x3 x4 x5 r σ1 τ1 h H locs ls hw hl
    exact k_X12_next_49 l S hr hlk hK N (H_X12_next_49 N n) (fun σ τ x1 x2 x3 x4 x5 r σ1 τ1 H locs ls h hw hl => ih σ τ x1 x2 x3 x4 x5 r σ1 τ1 h H locs ls hw hl) σ τ x1 x2 x3 x4 x5 h hw hl
set_option maxHeartbeats 4000000 in
set_option maxRecDepth 100000 in
theorem b_X12_next_0 (l : Launch) (S : CallFix P9 m9 C9 cX12_next 8 s av.toArray gx_G RX12) (hr : meth.sig.returnType = (some .int)) (hlk : meth.locks = false) (hK : gx_K E s) (N : Nat) (σ : gI) (τ : gJ) (x1 : Int32) {r : Int32} {σ1 : gI} {τ1 : gJ} (h : B_X12_next_0 N σ τ x1 = some (r, σ1, τ1)) {H : Heap} {locs : List Loc} {ls : Array Slot} (hw : gx_W gx_tb gx_tb.length E s σ τ H locs) (hl : lv_has ls 8 [(0, .ref (E.2.2 + 199)), (1, .int x1)]) : W P9 l e9 (gx_rm 10) s m9 av.toArray below meth C9 H locs 0 0 (gq_Qi below av s E r σ1 τ1) (F0 m9 0 ls []) := by
  have hx := S.1
  have hb := S.2.1
  unfold B_X12_next_0 at h
  refine lv_aload_n hx hb dX12_next_0 rfl (lv_at hl 0 rfl) ?_
  refine lv_iconst (v := 0) hx hb dX12_next_1 (by decide) ?_
  refine gx_put S hK gx_ok hw t_199 cl_13 0 (by decide) rfl mw_1414 rfl rfl (ty := .int) (v := 0) (by decide +kernel) rfl rfl dX12_next_2 (fun H locs hw => ?_)
  obtain ⟨σ_1, e_1, h⟩ := nm_some h
  rw [← e_1] at hw
  refine lv_aload_n hx hb dX12_next_5 rfl (lv_at hl 0 rfl) ?_
  refine gx_get S hK hw t_199 cl_13 3 (by decide) rfl mw_1417 rfl dX12_next_6 ?_
  refine lv_if_eq (tgt := 24) hx hb dX12_next_9 (by decide) (fun c_2 => ?_) (fun c_2 => ?_)
  · rw [if_pos c_2] at h
    refine lv_iconst (v := (-1)) hx hb dX12_next_24 (by decide) ?_
    obtain ⟨rfl, rfl, rfl⟩ := sm_inj h
    exact gx_ri (post := gq_p (-1) σ_1 τ) (v := (-1)) S hr hlk hw rfl dX12_next_25 ⟨rfl, rfl, rfl⟩
  · rw [if_neg c_2] at h
    refine lv_iload_n hx hb dX12_next_12 rfl (lv_at hl 1 rfl) ?_
    refine lv_i2l (v := x1.toInt64) hx hb dX12_next_13 rfl ?_
    refine lv_lconst (v := 0) hx hb dX12_next_14 (by decide) ?_
    refine lv_ldc2 (v := 999) hx hb S.2.2.2.1 (S.2.2.2.2 _ mw_2043) dX12_next_15 ?_
    obtain ⟨r_3, σ_3, τ_3, q_3, h⟩ := bd_some h
    refine gx_cSi (As := [.long x1.toInt64, .long 0, .long 999]) (rest := []) S hK gx_ok hw (c_X12_in l (E := E) N σ_1 τ x1.toInt64 0 999 q_3) cw_X12_129 ⟨Nat.le_of_ble_eq_true rfl, Nat.le_of_ble_eq_true rfl⟩ rfl hl.1 rfl (Nat.le_of_ble_eq_true rfl) ⟨Nat.le_of_ble_eq_true rfl, Nat.le_of_ble_eq_true rfl⟩ dX12_next_18 (fun r9 σ9 τ9 H locs hp hw => ?_)
    obtain ⟨rfl, rfl, rfl⟩ := hp
    refine lv_if_ne (tgt := 26) hx hb dX12_next_21 (by decide) (fun c_4 => ?_) (fun c_4 => ?_)
    · rw [if_neg c_4] at h
      refine lv_aload_n hx hb dX12_next_26 rfl (lv_at hl 0 rfl) ?_
      obtain ⟨r_5, σ_5, τ_5, q_5, h⟩ := bd_some h
      refine gx_cVi (As := []) (rest := []) S hK gx_ok hw (c_X12_laysFits l (E := E) N σ_3 τ_3 q_5) cw_X12_448 t_199 cl_13 ⟨Nat.le_of_ble_eq_true rfl, Nat.le_of_ble_eq_true rfl⟩ rfl hl.1 rfl (Nat.le_of_ble_eq_true rfl) ⟨Nat.le_of_ble_eq_true rfl, Nat.le_of_ble_eq_true rfl⟩ dX12_next_27 (fun r9 σ9 τ9 H locs hp hw => ?_)
      obtain ⟨rfl, rfl, rfl⟩ := hp
      refine lv_if_ne (tgt := 36) hx hb dX12_next_30 (by decide) (fun c_6 => ?_) (fun c_6 => ?_)
      · rw [if_neg c_6] at h
        refine lv_aload_n hx hb dX12_next_36 rfl (lv_at hl 0 rfl) ?_
        obtain ⟨r_7, σ_7, τ_7, q_7, h⟩ := bd_some h
        refine gx_cVi (As := []) (rest := []) S hK gx_ok hw (c_X12_forks l (E := E) N σ_5 τ_5 q_7) cw_X12_416 t_199 cl_13 ⟨Nat.le_of_ble_eq_true rfl, Nat.le_of_ble_eq_true rfl⟩ rfl hl.1 rfl (Nat.le_of_ble_eq_true rfl) ⟨Nat.le_of_ble_eq_true rfl, Nat.le_of_ble_eq_true rfl⟩ dX12_next_37 (fun r9 σ9 τ9 H locs hp hw => ?_)
        obtain ⟨rfl, rfl, rfl⟩ := hp
        refine lv_istore_n (lv' := [(2, .int r_7), (0, .ref (E.2.2 + 199)), (1, .int x1)]) hx hb dX12_next_40 rfl hl (by decide) rfl (fun ls hl => ?_)
        refine lv_iconst (v := (-1)) hx hb dX12_next_41 (by decide) ?_
        refine lv_istore_n (lv' := [(3, .int (-1)), (2, .int r_7), (0, .ref (E.2.2 + 199)), (1, .int x1)]) hx hb dX12_next_42 rfl hl (by decide) rfl (fun ls hl => ?_)
        refine lv_iconst (v := 0) hx hb dX12_next_43 (by decide) ?_
        refine lv_istore (lv' := [(4, .int 0), (3, .int (-1)), (2, .int r_7), (0, .ref (E.2.2 + 199)), (1, .int x1)]) hx hb dX12_next_44 hl (by decide) rfl (fun ls hl => ?_)
        refine lv_iconst (v := 0) hx hb dX12_next_46 (by decide) ?_
        refine lv_istore (lv' := [(5, .int 0), (4, .int 0), (3, .int (-1)), (2, .int r_7), (0, .ref (E.2.2 + 199)), (1, .int x1)]) hx hb dX12_next_47 hl (by decide) rfl (fun ls hl => ?_)
        exact h_X12_next_49 l S hr hlk hK N N σ_7 τ_7 x1 r_7 (-1) 0 0 _ _ _ h _ _ _ hw (lv_sub hl [4, 5, 3, 2, 1, 0] rfl)
      · rw [if_pos c_6] at h
        refine lv_bipush (v := (-2)) hx hb dX12_next_33 (by decide) ?_
        obtain ⟨rfl, rfl, rfl⟩ := sm_inj h
        exact gx_ri (post := gq_p (-2) σ_5 τ_5) (v := (-2)) S hr hlk hw rfl dX12_next_35 ⟨rfl, rfl, rfl⟩
    · rw [if_pos c_4] at h
      refine lv_iconst (v := (-1)) hx hb dX12_next_24 (by decide) ?_
      obtain ⟨rfl, rfl, rfl⟩ := sm_inj h
      exact gx_ri (post := gq_p (-1) σ_3 τ_3) (v := (-1)) S hr hlk hw rfl dX12_next_25 ⟨rfl, rfl, rfl⟩
set_option maxHeartbeats 4000000 in
set_option maxRecDepth 100000 in
theorem c_X12_next (l : Launch) {E : gE} (N : Nat) (σ : gI) (τ : gJ) (x1 : Int32) {r : Int32} {σ1 : gI} {τ1 : gJ} (h : B_X12_next_0 N σ τ x1 = some (r, σ1, τ1)) : gx_Mi l yX12_next cX12_next 8 (some .int) 10 gx_tb E σ τ [.ref (E.2.2 + 199), .int x1] (gq_p r σ1 τ1) := by
  refine gx_bi (by decide +kernel) (Nat.le_of_ble_eq_true rfl) ?_
  intro P9 e9 s m9 below meth C9 S hr hlk hK hw ls hl
  have hl : lv_has ls 8 [(0, .ref (E.2.2 + 199)), (1, .int x1)] := hl
  exact b_X12_next_0 l S hr hlk hK N σ τ x1 h hw hl
/-! X12_odds -/
def C_X12_odds_161 (N : Nat) (rec_120 : gI → gJ → Int32 → Int32 → Int32 → Int32 → Int64 → Int64 → Int32 → Option (Int32 × gI × gJ)) (rec_161 : gI → gJ → Int32 → Int32 → Int32 → Int32 → Int64 → Int64 → Int32 → Int64 → Int32 → Option (Int32 × gI × gJ)) (σ : gI) (τ : gJ) (x1 : Int32) (x2 : Int32) (x3 : Int32) (x4 : Int32) (x5 : Int64) (x7 : Int64) (x9 : Int32) (x10 : Int64) (x12 : Int32) : Option (Int32 × gI × gJ) := if x4 ≤ x12 then (nm (x5 + x10) fun v_2 => nm (x9 + 1) fun v_3 => rec_120 σ τ x1 x2 x3 x4 v_2 x7 v_3) else (bd (B_X12_has_0 N σ τ x9 x12) fun r_4 σ_4 τ_4 => if r_4 = 0 then (nm (x10 * ((10 - x3).toInt64)) fun v_6 => nm (x12 + 1) fun v_7 => rec_161 σ_4 τ_4 x1 x2 x3 x4 x5 x7 x9 v_6 v_7) else (nm (x10 * x3.toInt64) fun v_8 => nm (x12 + 1) fun v_9 => rec_161 σ_4 τ_4 x1 x2 x3 x4 x5 x7 x9 v_8 v_9))
def H_X12_odds_161 (N : Nat) (rec_120 : gI → gJ → Int32 → Int32 → Int32 → Int32 → Int64 → Int64 → Int32 → Option (Int32 × gI × gJ)) : Nat → gI → gJ → Int32 → Int32 → Int32 → Int32 → Int64 → Int64 → Int32 → Int64 → Int32 → Option (Int32 × gI × gJ) := itn (fun rec_161 => C_X12_odds_161 N rec_120 rec_161) (fun _ _ _ _ _ _ _ _ _ _ _ => none)
def C_X12_odds_120 (N : Nat) (rec_120 : gI → gJ → Int32 → Int32 → Int32 → Int32 → Int64 → Int64 → Int32 → Option (Int32 × gI × gJ)) (σ : gI) (τ : gJ) (x1 : Int32) (x2 : Int32) (x3 : Int32) (x4 : Int32) (x5 : Int64) (x7 : Int64) (x9 : Int32) : Option (Int32 × gI × gJ) := if 1 <<< (x4 &&& 31) ≤ x9 then (nm (up2 σ 199 31 0) fun σ_2 => nm (up2 σ_2 199 1 0) fun σ_3 => bd (B_X12_entersFraction_0 N σ_3 τ x5 x7) fun _ σ_4 τ_4 => some (0, σ_4, τ_4)) else (nm (up2 σ 199 31 x9) fun σ_5 => bd (B_X12_goesOn_0 N σ_5 τ x2) fun _ σ_6 τ_6 => ck ((7 * x1) + 4) 45 fun j_7 => if σ_6 207 j_7 = 1 then (H_X12_odds_161 N rec_120 N σ_6 τ_6 x1 x2 x3 x4 x5 x7 x9 1 0) else (nm (x9 + 1) fun v_9 => rec_120 σ_6 τ_6 x1 x2 x3 x4 x5 x7 v_9))
def H_X12_odds_120 (N : Nat) : Nat → gI → gJ → Int32 → Int32 → Int32 → Int32 → Int64 → Int64 → Int32 → Option (Int32 × gI × gJ) := itn (fun rec_120 => C_X12_odds_120 N rec_120) (fun _ _ _ _ _ _ _ _ _ => none)
def C_X12_odds_96 (N : Nat) (rec_96 : gI → gJ → Int32 → Int32 → Int32 → Int32 → Int64 → Int32 → Option (Int32 × gI × gJ)) (σ : gI) (τ : gJ) (x1 : Int32) (x2 : Int32) (x3 : Int32) (x4 : Int32) (x7 : Int64) (x9 : Int32) : Option (Int32 × gI × gJ) := if x4 ≤ x9 then (H_X12_odds_120 N N σ τ x1 x2 x3 x4 0 x7 0) else (nm (x7 * 10) fun v_2 => nm (x9 + 1) fun v_3 => rec_96 σ τ x1 x2 x3 x4 v_2 v_3)
def H_X12_odds_96 (N : Nat) : Nat → gI → gJ → Int32 → Int32 → Int32 → Int32 → Int64 → Int32 → Option (Int32 × gI × gJ) := itn (fun rec_96 => C_X12_odds_96 N rec_96) (fun _ _ _ _ _ _ _ _ => none)
def C_X12_odds_59 (N : Nat) (rec_59 : gI → gJ → Int32 → Int32 → Int32 → Int32 → Option (Int32 × gI × gJ)) (σ : gI) (τ : gJ) (x1 : Int32) (x2 : Int32) (x3 : Int32) (x4 : Int32) : Option (Int32 × gI × gJ) := if (σ 206 43) + x2 ≤ 10 * ((σ 199 32) + x4) then (H_X12_odds_96 N N σ τ x1 x2 x3 x4 1 0) else (nm (x4 + 1) fun v_2 => rec_59 σ τ x1 x2 x3 v_2)
def H_X12_odds_59 (N : Nat) : Nat → gI → gJ → Int32 → Int32 → Int32 → Int32 → Option (Int32 × gI × gJ) := itn (fun rec_59 => C_X12_odds_59 N rec_59) (fun _ _ _ _ _ _ => none)
def B_X12_odds_0 (N : Nat) (σ : gI) (τ : gJ) (x1 : Int32) (x2 : Int32) (x3 : Int32) : Option (Int32 × gI × gJ) := nm (up2 σ 199 0 0) fun σ_1 => bd (B_X12_isThing_0 N σ_1 τ x1) fun r_2 σ_2 τ_2 => if r_2 = 0 then (some ((-1), σ_2, τ_2)) else (bd (B_X12_in_0 N σ_2 τ_2 x2.toInt64 0 60) fun r_4 σ_4 τ_4 => if r_4 = 0 then (some ((-1), σ_4, τ_4)) else (bd (B_X12_in_0 N σ_4 τ_4 x3.toInt64 0 10) fun r_6 σ_6 τ_6 => if r_6 = 0 then (some ((-1), σ_6, τ_6)) else (nm (up2 σ_6 199 32 (((σ_6 206 43) + 9) / 10)) fun σ_8 => H_X12_odds_59 N N σ_8 τ_6 x1 x2 x3 0)))
set_option maxHeartbeats 4000000 in
set_option maxRecDepth 100000 in
theorem k_X12_odds_161 (l : Launch) (S : CallFix P9 m9 C9 cX12_odds 13 s av.toArray gx_G RX12) (hr : meth.sig.returnType = (some .int)) (hlk : meth.locks = false) (hK : gx_K E s) (N : Nat) (rec_120 : gI → gJ → Int32 → Int32 → Int32 → Int32 → Int64 → Int64 → Int32 → Option (Int32 × gI × gJ)) (hrec_120 : ∀ (σ : gI) (τ : gJ) (x1 : Int32) (x2 : Int32) (x3 : Int32) (x4 : Int32) (x5 : Int64) (x7 : Int64) (x9 : Int32) (r : Int32) (σ1 : gI) (τ1 : gJ) (H : Heap) (locs : List Loc) (ls : Array Slot), rec_120 σ τ x1 x2 x3 x4 x5 x7 x9 = some (r, σ1, τ1) → gx_W gx_tb gx_tb.length E s σ τ H locs → lv_has ls 13 [(0, .ref (E.2.2 + 199)), (1, .int x1), (2, .int x2), (3, .int x3), (4, .int x4), (5, .long x5), (7, .long x7), (9, .int x9)] → W P9 l e9 (gx_rm 102) s m9 av.toArray below meth C9 H locs 0 0 (gq_Qi below av s E r σ1 τ1) (F0 m9 120 ls [])) (rec_161 : gI → gJ → Int32 → Int32 → Int32 → Int32 → Int64 → Int64 → Int32 → Int64 → Int32 → Option (Int32 × gI × gJ)) (hrec_161 : ∀ (σ : gI) (τ : gJ) (x1 : Int32) (x2 : Int32) (x3 : Int32) (x4 : Int32) (x5 : Int64) (x7 : Int64) (x9 : Int32) (x10 : Int64) (x12 : Int32) (r : Int32) (σ1 : gI) (τ1 : gJ) (H : Heap) (locs : List Loc) (ls : Array Slot), rec_161 σ τ x1 x2 x3 x4 x5 x7 x9 x10 x12 = some (r, σ1, τ1) → gx_W gx_tb gx_tb.length E s σ τ H locs → lv_has ls 13 [(0, .ref (E.2.2 + 199)), (1, .int x1), (2, .int x2), (3, .int x3), (4, .int x4), (5, .long x5), (7, .long x7), (9, .int x9), (10, .long x10), (12, .int x12)] → W P9 l e9 (gx_rm 102) s m9 av.toArray below meth C9 H locs 0 0 (gq_Qi below av s E r σ1 τ1) (F0 m9 161 ls [])) (σ : gI) (τ : gJ) (x1 : Int32) (x2 : Int32) (x3 : Int32) (x4 : Int32) (x5 : Int64) (x7 : Int64) (x9 : Int32) (x10 : Int64) (x12 : Int32) {r : Int32} {σ1 : gI} {τ1 : gJ} (h : C_X12_odds_161 N rec_120 rec_161 σ τ x1 x2 x3 x4 x5 x7 x9 x10 x12 = some (r, σ1, τ1)) {H : Heap} {locs : List Loc} {ls : Array Slot} (hw : gx_W gx_tb gx_tb.length E s σ τ H locs) (hl : lv_has ls 13 [(0, .ref (E.2.2 + 199)), (1, .int x1), (2, .int x2), (3, .int x3), (4, .int x4), (5, .long x5), (7, .long x7), (9, .int x9), (10, .long x10), (12, .int x12)]) : W P9 l e9 (gx_rm 102) s m9 av.toArray below meth C9 H locs 0 0 (gq_Qi below av s E r σ1 τ1) (F0 m9 161 ls []) := by
  have hx := S.1
  have hb := S.2.1
  unfold C_X12_odds_161 at h
  refine lv_iload hx hb dX12_odds_161 (lv_at hl 9 rfl) ?_
  refine lv_iload hx hb dX12_odds_163 (lv_at hl 4 rfl) ?_
  refine lv_icmp_ge (tgt := 199) hx hb dX12_odds_165 (by decide) (fun c_1 => ?_) (fun c_1 => ?_)
  · rw [if_pos c_1] at h
    refine lv_lload hx hb dX12_odds_199 (lv_at hl 5 rfl) ?_
    refine lv_lload hx hb dX12_odds_201 (lv_at hl 8 rfl) ?_
    refine lv_ladd hx hb dX12_odds_203 ?_
    refine lv_lstore (lv' := [(5, .long (x5 + x10)), (0, .ref (E.2.2 + 199)), (1, .int x1), (2, .int x2), (3, .int x3), (4, .int x4), (7, .long x7), (9, .int x9), (10, .long x10), (12, .int x12)]) hx hb dX12_odds_204 hl (by decide) rfl (fun ls hl => ?_)
    obtain ⟨v_2, e_2, h⟩ := nm_some h
    have hl : lv_has ls 13 [(5, .long v_2), (0, .ref (E.2.2 + 199)), (1, .int x1), (2, .int x2), (3, .int x3), (4, .int x4), (7, .long x7), (9, .int x9), (10, .long x10), (12, .int x12)] := by rw [e_2]; exact hl
    refine lv_iinc (v := x9 + 1) (lv' := [(9, .int (x9 + 1)), (5, .long v_2), (0, .ref (E.2.2 + 199)), (1, .int x1), (2, .int x2), (3, .int x3), (4, .int x4), (7, .long x7), (10, .long x10), (12, .int x12)]) hx hb dX12_odds_206 hl (k := 7) rfl rfl (by decide) rfl (fun ls hl => ?_)
    obtain ⟨v_3, e_3, h⟩ := nm_some h
    have hl : lv_has ls 13 [(9, .int v_3), (5, .long v_2), (0, .ref (E.2.2 + 199)), (1, .int x1), (2, .int x2), (3, .int x3), (4, .int x4), (7, .long x7), (10, .long x10), (12, .int x12)] := by rw [e_3]; exact hl
    refine lv_goto (tgt := 120) hx hb dX12_odds_209 (by decide) ?_
    exact hrec_120 σ τ x1 x2 x3 x4 v_2 x7 v_3 _ _ _ _ _ _ h hw (lv_sub hl [2, 3, 4, 5, 6, 1, 7, 0] rfl)
  · rw [if_neg c_1] at h
    refine lv_lload hx hb dX12_odds_168 (lv_at hl 8 rfl) ?_
    refine lv_iload hx hb dX12_odds_170 (lv_at hl 7 rfl) ?_
    refine lv_iload hx hb dX12_odds_172 (lv_at hl 9 rfl) ?_
    obtain ⟨r_4, σ_4, τ_4, q_4, h⟩ := bd_some h
    refine gx_cSi (As := [.int x9, .int x12]) (rest := [.long x10]) S hK gx_ok hw (c_X12_has l (E := E) N σ τ x9 x12 q_4) cw_X12_264 ⟨Nat.le_of_ble_eq_true rfl, Nat.le_of_ble_eq_true rfl⟩ rfl hl.1 rfl (Nat.le_of_ble_eq_true rfl) ⟨Nat.le_of_ble_eq_true rfl, Nat.le_of_ble_eq_true rfl⟩ dX12_odds_174 (fun r9 σ9 τ9 H locs hp hw => ?_)
    obtain ⟨rfl, rfl, rfl⟩ := hp
    refine lv_if_eq (tgt := 185) hx hb dX12_odds_177 (by decide) (fun c_5 => ?_) (fun c_5 => ?_)
    · rw [if_pos c_5] at h
      refine lv_bipush (v := 10) hx hb dX12_odds_185 (by decide) ?_
      refine lv_iload_n hx hb dX12_odds_187 rfl (lv_at hl 3 rfl) ?_
      refine lv_isub hx hb dX12_odds_188 ?_
      refine lv_i2l (v := (10 - x3).toInt64) hx hb dX12_odds_189 rfl ?_
      refine lv_lmul hx hb dX12_odds_190 ?_
      refine lv_lstore (lv' := [(10, .long (x10 * ((10 - x3).toInt64))), (0, .ref (E.2.2 + 199)), (1, .int x1), (2, .int x2), (3, .int x3), (4, .int x4), (5, .long x5), (7, .long x7), (9, .int x9), (12, .int x12)]) hx hb dX12_odds_191 hl (by decide) rfl (fun ls hl => ?_)
      obtain ⟨v_6, e_6, h⟩ := nm_some h
      have hl : lv_has ls 13 [(10, .long v_6), (0, .ref (E.2.2 + 199)), (1, .int x1), (2, .int x2), (3, .int x3), (4, .int x4), (5, .long x5), (7, .long x7), (9, .int x9), (12, .int x12)] := by rw [e_6]; exact hl
      refine lv_iinc (v := x12 + 1) (lv' := [(12, .int (x12 + 1)), (10, .long v_6), (0, .ref (E.2.2 + 199)), (1, .int x1), (2, .int x2), (3, .int x3), (4, .int x4), (5, .long x5), (7, .long x7), (9, .int x9)]) hx hb dX12_odds_193 hl (k := 9) rfl rfl (by decide) rfl (fun ls hl => ?_)
      obtain ⟨v_7, e_7, h⟩ := nm_some h
      have hl : lv_has ls 13 [(12, .int v_7), (10, .long v_6), (0, .ref (E.2.2 + 199)), (1, .int x1), (2, .int x2), (3, .int x3), (4, .int x4), (5, .long x5), (7, .long x7), (9, .int x9)] := by rw [e_7]; exact hl
      refine lv_goto (tgt := 161) hx hb dX12_odds_196 (by decide) ?_
      exact hrec_161 σ_4 τ_4 x1 x2 x3 x4 x5 x7 x9 v_6 v_7 _ _ _ _ _ _ h hw (lv_sub hl [2, 3, 4, 5, 6, 7, 8, 9, 1, 0] rfl)
    · rw [if_neg c_5] at h
      refine lv_iload_n hx hb dX12_odds_180 rfl (lv_at hl 3 rfl) ?_
      refine lv_i2l (v := x3.toInt64) hx hb dX12_odds_181 rfl ?_
      refine lv_goto (tgt := 190) hx hb dX12_odds_182 (by decide) ?_
      refine lv_lmul hx hb dX12_odds_190 ?_
      refine lv_lstore (lv' := [(10, .long (x10 * x3.toInt64)), (0, .ref (E.2.2 + 199)), (1, .int x1), (2, .int x2), (3, .int x3), (4, .int x4), (5, .long x5), (7, .long x7), (9, .int x9), (12, .int x12)]) hx hb dX12_odds_191 hl (by decide) rfl (fun ls hl => ?_)
      obtain ⟨v_8, e_8, h⟩ := nm_some h
      have hl : lv_has ls 13 [(10, .long v_8), (0, .ref (E.2.2 + 199)), (1, .int x1), (2, .int x2), (3, .int x3), (4, .int x4), (5, .long x5), (7, .long x7), (9, .int x9), (12, .int x12)] := by rw [e_8]; exact hl
      refine lv_iinc (v := x12 + 1) (lv' := [(12, .int (x12 + 1)), (10, .long v_8), (0, .ref (E.2.2 + 199)), (1, .int x1), (2, .int x2), (3, .int x3), (4, .int x4), (5, .long x5), (7, .long x7), (9, .int x9)]) hx hb dX12_odds_193 hl (k := 9) rfl rfl (by decide) rfl (fun ls hl => ?_)
      obtain ⟨v_9, e_9, h⟩ := nm_some h
      have hl : lv_has ls 13 [(12, .int v_9), (10, .long v_8), (0, .ref (E.2.2 + 199)), (1, .int x1), (2, .int x2), (3, .int x3), (4, .int x4), (5, .long x5), (7, .long x7), (9, .int x9)] := by rw [e_9]; exact hl
      refine lv_goto (tgt := 161) hx hb dX12_odds_196 (by decide) ?_
      exact hrec_161 σ_4 τ_4 x1 x2 x3 x4 x5 x7 x9 v_8 v_9 _ _ _ _ _ _ h hw (lv_sub hl [2, 3, 4, 5, 6, 7, 8, 9, 1, 0] rfl)
set_option maxHeartbeats 4000000 in
set_option maxRecDepth 100000 in
theorem h_X12_odds_161 (l : Launch) (S : CallFix P9 m9 C9 cX12_odds 13 s av.toArray gx_G RX12) (hr : meth.sig.returnType = (some .int)) (hlk : meth.locks = false) (hK : gx_K E s) (N : Nat) (rec_120 : gI → gJ → Int32 → Int32 → Int32 → Int32 → Int64 → Int64 → Int32 → Option (Int32 × gI × gJ)) (hrec_120 : ∀ (σ : gI) (τ : gJ) (x1 : Int32) (x2 : Int32) (x3 : Int32) (x4 : Int32) (x5 : Int64) (x7 : Int64) (x9 : Int32) (r : Int32) (σ1 : gI) (τ1 : gJ) (H : Heap) (locs : List Loc) (ls : Array Slot), rec_120 σ τ x1 x2 x3 x4 x5 x7 x9 = some (r, σ1, τ1) → gx_W gx_tb gx_tb.length E s σ τ H locs → lv_has ls 13 [(0, .ref (E.2.2 + 199)), (1, .int x1), (2, .int x2), (3, .int x3), (4, .int x4), (5, .long x5), (7, .long x7), (9, .int x9)] → W P9 l e9 (gx_rm 102) s m9 av.toArray below meth C9 H locs 0 0 (gq_Qi below av s E r σ1 τ1) (F0 m9 120 ls [])) : ∀ (n : Nat) (σ : gI) (τ : gJ) (x1 : Int32) (x2 : Int32) (x3 : Int32) (x4 : Int32) (x5 : Int64) (x7 : Int64) (x9 : Int32) (x10 : Int64) (x12 : Int32) (r : Int32) (σ1 : gI) (τ1 : gJ), H_X12_odds_161 N rec_120 n σ τ x1 x2 x3 x4 x5 x7 x9 x10 x12 = some (r, σ1, τ1) → ∀ (H : Heap) (locs : List Loc) (ls : Array Slot), gx_W gx_tb gx_tb.length E s σ τ H locs → lv_has ls 13 [(0, .ref (E.2.2 + 199)), (1, .int x1), (2, .int x2), (3, .int x3), (4, .int x4), (5, .long x5), (7, .long x7), (9, .int x9), (10, .long x10), (12, .int x12)] → W P9 l e9 (gx_rm 102) s m9 av.toArray below meth C9 H locs 0 0 (gq_Qi below av s E r σ1 τ1) (F0 m9 161 ls []) := by
  intro n
  induction n with
  | zero => intro σ τ x1 x2 x3 x4 x5 x7 x9 x10 x12 r σ1 τ1 h; cases h
  | succ n ih =>
    intro σ τ x1 x2 x3 x4 x5 x7 x9 x10 x12 r σ1 τ1 h H locs ls hw hl
    exact k_X12_odds_161 l S hr hlk hK N rec_120 hrec_120 (H_X12_odds_161 N rec_120 n) (fun σ τ x1 x2 x3 x4 x5 x7 x9 x10 x12 r σ1 τ1 H locs ls h hw hl => ih σ τ x1 x2 x3 x4 x5 x7 x9 x10 x12 r σ1 τ1 h H locs ls hw hl) σ τ x1 x2 x3 x4 x5 x7 x9 x10 x12 h hw hl
set_option maxHeartbeats 4000000 in
set_option maxRecDepth 100000 in
theorem k_X12_odds_120 (l : Launch) (S : CallFix P9 m9 C9 cX12_odds 13 s av.toArray gx_G RX12) (hr : meth.sig.returnType = (some .int)) (hlk : meth.locks = false) (hK : gx_K E s) (N : Nat) (rec_120 : gI → gJ → Int32 → Int32 → Int32 → Int32 → Int64 → Int64 → Int32 → Option (Int32 × gI × gJ)) (hrec_120 : ∀ (σ : gI) (τ : gJ) (x1 : Int32) (x2 : Int32) (x3 : Int32) (x4 : Int32) (x5 : Int64) (x7 : Int64) (x9 : Int32) (r : Int32) (σ1 : gI) (τ1 : gJ) (H : Heap) (locs : List Loc) (ls : Array Slot), rec_120 σ τ x1 x2 x3 x4 x5 x7 x9 = some (r, σ1, τ1) → gx_W gx_tb gx_tb.length E s σ τ H locs → lv_has ls 13 [(0, .ref (E.2.2 + 199)), (1, .int x1), (2, .int x2), (3, .int x3), (4, .int x4), (5, .long x5), (7, .long x7), (9, .int x9)] → W P9 l e9 (gx_rm 102) s m9 av.toArray below meth C9 H locs 0 0 (gq_Qi below av s E r σ1 τ1) (F0 m9 120 ls [])) (σ : gI) (τ : gJ) (x1 : Int32) (x2 : Int32) (x3 : Int32) (x4 : Int32) (x5 : Int64) (x7 : Int64) (x9 : Int32) {r : Int32} {σ1 : gI} {τ1 : gJ} (h : C_X12_odds_120 N rec_120 σ τ x1 x2 x3 x4 x5 x7 x9 = some (r, σ1, τ1)) {H : Heap} {locs : List Loc} {ls : Array Slot} (hw : gx_W gx_tb gx_tb.length E s σ τ H locs) (hl : lv_has ls 13 [(0, .ref (E.2.2 + 199)), (1, .int x1), (2, .int x2), (3, .int x3), (4, .int x4), (5, .long x5), (7, .long x7), (9, .int x9)]) : W P9 l e9 (gx_rm 102) s m9 av.toArray below meth C9 H locs 0 0 (gq_Qi below av s E r σ1 τ1) (F0 m9 120 ls []) := by
  have hx := S.1
  have hb := S.2.1
  unfold C_X12_odds_120 at h
  refine lv_iload hx hb dX12_odds_120 (lv_at hl 7 rfl) ?_
  refine lv_iconst (v := 1) hx hb dX12_odds_122 (by decide) ?_
  refine lv_iload hx hb dX12_odds_123 (lv_at hl 4 rfl) ?_
  refine lv_ishl hx hb dX12_odds_125 ?_
  refine lv_icmp_ge (tgt := 212) hx hb dX12_odds_126 (by decide) (fun c_1 => ?_) (fun c_1 => ?_)
  · rw [if_pos c_1] at h
    refine lv_aload_n hx hb dX12_odds_212 rfl (lv_at hl 0 rfl) ?_
    refine lv_iconst (v := 0) hx hb dX12_odds_213 (by decide) ?_
    refine gx_put S hK gx_ok hw t_199 cl_13 31 (by decide) rfl mw_1445 rfl rfl (ty := .int) (v := 0) (by decide +kernel) rfl rfl dX12_odds_214 (fun H locs hw => ?_)
    obtain ⟨σ_2, e_2, h⟩ := nm_some h
    rw [← e_2] at hw
    refine lv_aload_n hx hb dX12_odds_217 rfl (lv_at hl 0 rfl) ?_
    refine lv_iconst (v := 0) hx hb dX12_odds_218 (by decide) ?_
    refine gx_put S hK gx_ok hw t_199 cl_13 1 (by decide) rfl mw_1415 rfl rfl (ty := .int) (v := 0) (by decide +kernel) rfl rfl dX12_odds_219 (fun H locs hw => ?_)
    obtain ⟨σ_3, e_3, h⟩ := nm_some h
    rw [← e_3] at hw
    refine lv_aload_n hx hb dX12_odds_222 rfl (lv_at hl 0 rfl) ?_
    refine lv_lload hx hb dX12_odds_223 (lv_at hl 5 rfl) ?_
    refine lv_lload hx hb dX12_odds_225 (lv_at hl 6 rfl) ?_
    obtain ⟨u_4, σ_4, τ_4, q_4, h⟩ := bd_some h
    refine gx_cVv (As := [.long x5, .long x7]) (rest := []) S hK gx_ok hw (c_X12_entersFraction l (E := E) N σ_3 τ x5 x7 q_4) cw_X12_455 t_199 cl_13 ⟨Nat.le_of_ble_eq_true rfl, Nat.le_of_ble_eq_true rfl⟩ rfl hl.1 rfl (Nat.le_of_ble_eq_true rfl) ⟨Nat.le_of_ble_eq_true rfl, Nat.le_of_ble_eq_true rfl⟩ dX12_odds_227 (fun σ9 τ9 H locs hp hw => ?_)
    obtain ⟨rfl, rfl⟩ := hp
    refine lv_iconst (v := 0) hx hb dX12_odds_230 (by decide) ?_
    obtain ⟨rfl, rfl, rfl⟩ := sm_inj h
    exact gx_ri (post := gq_p 0 σ_4 τ_4) (v := 0) S hr hlk hw rfl dX12_odds_231 ⟨rfl, rfl, rfl⟩
  · rw [if_neg c_1] at h
    refine lv_aload_n hx hb dX12_odds_129 rfl (lv_at hl 0 rfl) ?_
    refine lv_iload hx hb dX12_odds_130 (lv_at hl 7 rfl) ?_
    refine gx_put S hK gx_ok hw t_199 cl_13 31 (by decide) rfl mw_1445 rfl rfl (ty := .int) (v := x9) (by decide +kernel) rfl rfl dX12_odds_132 (fun H locs hw => ?_)
    obtain ⟨σ_5, e_5, h⟩ := nm_some h
    rw [← e_5] at hw
    refine lv_aload_n hx hb dX12_odds_135 rfl (lv_at hl 0 rfl) ?_
    refine lv_iload_n hx hb dX12_odds_136 rfl (lv_at hl 2 rfl) ?_
    obtain ⟨u_6, σ_6, τ_6, q_6, h⟩ := bd_some h
    refine gx_cVv (As := [.int x2]) (rest := []) S hK gx_ok hw (c_X12_goesOn l (E := E) N σ_5 τ x2 q_6) cw_X12_380 t_199 cl_13 ⟨Nat.le_of_ble_eq_true rfl, Nat.le_of_ble_eq_true rfl⟩ rfl hl.1 rfl (Nat.le_of_ble_eq_true rfl) ⟨Nat.le_of_ble_eq_true rfl, Nat.le_of_ble_eq_true rfl⟩ dX12_odds_137 (fun σ9 τ9 H locs hp hw => ?_)
    obtain ⟨rfl, rfl⟩ := hp
    refine lv_aload_n hx hb dX12_odds_140 rfl (lv_at hl 0 rfl) ?_
    refine gx_getr (j := 207) S hK hw t_199 cl_13 11 (by decide) rfl mw_1425 rfl dX12_odds_141 ?_
    refine lv_bipush (v := 7) hx hb dX12_odds_144 (by decide) ?_
    refine lv_iload_n hx hb dX12_odds_146 rfl (lv_at hl 1 rfl) ?_
    refine lv_imul hx hb dX12_odds_147 ?_
    refine lv_iconst (v := 4) hx hb dX12_odds_148 (by decide) ?_
    refine lv_iadd hx hb dX12_odds_149 ?_
    obtain ⟨j_7, hj_7, hi_7, h⟩ := ck_some h
    refine gx_iald S hK hw t_207 j_7 hj_7 hi_7 dX12_odds_150 ?_
    refine lv_iconst (v := 1) hx hb dX12_odds_151 (by decide) ?_
    refine lv_icmp_ne (tgt := 206) hx hb dX12_odds_152 (by decide) (fun c_8 => ?_) (fun c_8 => ?_)
    · rw [if_neg c_8] at h
      refine lv_iinc (v := x9 + 1) (lv' := [(9, .int (x9 + 1)), (0, .ref (E.2.2 + 199)), (1, .int x1), (2, .int x2), (3, .int x3), (4, .int x4), (5, .long x5), (7, .long x7)]) hx hb dX12_odds_206 hl (k := 7) rfl rfl (by decide) rfl (fun ls hl => ?_)
      obtain ⟨v_9, e_9, h⟩ := nm_some h
      have hl : lv_has ls 13 [(9, .int v_9), (0, .ref (E.2.2 + 199)), (1, .int x1), (2, .int x2), (3, .int x3), (4, .int x4), (5, .long x5), (7, .long x7)] := by rw [e_9]; exact hl
      refine lv_goto (tgt := 120) hx hb dX12_odds_209 (by decide) ?_
      exact hrec_120 σ_6 τ_6 x1 x2 x3 x4 x5 x7 v_9 _ _ _ _ _ _ h hw (lv_sub hl [1, 2, 3, 4, 5, 6, 7, 0] rfl)
    · rw [if_pos c_8] at h
      refine lv_lconst (v := 1) hx hb dX12_odds_155 (by decide) ?_
      refine lv_lstore (lv' := [(10, .long 1), (0, .ref (E.2.2 + 199)), (1, .int x1), (2, .int x2), (3, .int x3), (4, .int x4), (5, .long x5), (7, .long x7), (9, .int x9)]) hx hb dX12_odds_156 hl (by decide) rfl (fun ls hl => ?_)
      refine lv_iconst (v := 0) hx hb dX12_odds_158 (by decide) ?_
      refine lv_istore (lv' := [(12, .int 0), (10, .long 1), (0, .ref (E.2.2 + 199)), (1, .int x1), (2, .int x2), (3, .int x3), (4, .int x4), (5, .long x5), (7, .long x7), (9, .int x9)]) hx hb dX12_odds_159 hl (by decide) rfl (fun ls hl => ?_)
      exact h_X12_odds_161 l S hr hlk hK N rec_120 hrec_120 N σ_6 τ_6 x1 x2 x3 x4 x5 x7 x9 1 0 _ _ _ h _ _ _ hw (lv_sub hl [2, 3, 4, 5, 6, 7, 8, 9, 1, 0] rfl)
set_option maxHeartbeats 4000000 in
set_option maxRecDepth 100000 in
theorem h_X12_odds_120 (l : Launch) (S : CallFix P9 m9 C9 cX12_odds 13 s av.toArray gx_G RX12) (hr : meth.sig.returnType = (some .int)) (hlk : meth.locks = false) (hK : gx_K E s) (N : Nat) : ∀ (n : Nat) (σ : gI) (τ : gJ) (x1 : Int32) (x2 : Int32) (x3 : Int32) (x4 : Int32) (x5 : Int64) (x7 : Int64) (x9 : Int32) (r : Int32) (σ1 : gI) (τ1 : gJ), H_X12_odds_120 N n σ τ x1 x2 x3 x4 x5 x7 x9 = some (r, σ1, τ1) → ∀ (H : Heap) (locs : List Loc) (ls : Array Slot), gx_W gx_tb gx_tb.length E s σ τ H locs → lv_has ls 13 [(0, .ref (E.2.2 + 199)), (1, .int x1), (2, .int x2), (3, .int x3), (4, .int x4), (5, .long x5), (7, .long x7), (9, .int x9)] → W P9 l e9 (gx_rm 102) s m9 av.toArray below meth C9 H locs 0 0 (gq_Qi below av s E r σ1 τ1) (F0 m9 120 ls []) := by
  intro n
  induction n with
  | zero => intro σ τ x1 x2 x3 x4 x5 x7 x9 r σ1 τ1 h; cases h
  | succ n ih =>
    intro σ τ x1 x2 x3 x4 x5 x7 x9 r σ1 τ1 h H locs ls hw hl
    exact k_X12_odds_120 l S hr hlk hK N (H_X12_odds_120 N n) (fun σ τ x1 x2 x3 x4 x5 x7 x9 r σ1 τ1 H locs ls h hw hl => ih σ τ x1 x2 x3 x4 x5 x7 x9 r σ1 τ1 h H locs ls hw hl) σ τ x1 x2 x3 x4 x5 x7 x9 h hw hl
set_option maxHeartbeats 4000000 in
set_option maxRecDepth 100000 in
theorem k_X12_odds_96 (l : Launch) (S : CallFix P9 m9 C9 cX12_odds 13 s av.toArray gx_G RX12) (hr : meth.sig.returnType = (some .int)) (hlk : meth.locks = false) (hK : gx_K E s) (N : Nat) (rec_96 : gI → gJ → Int32 → Int32 → Int32 → Int32 → Int64 → Int32 → Option (Int32 × gI × gJ)) (hrec_96 : ∀ (σ : gI) (τ : gJ) (x1 : Int32) (x2 : Int32) (x3 : Int32) (x4 : Int32) (x7 : Int64) (x9 : Int32) (r : Int32) (σ1 : gI) (τ1 : gJ) (H : Heap) (locs : List Loc) (ls : Array Slot), rec_96 σ τ x1 x2 x3 x4 x7 x9 = some (r, σ1, τ1) → gx_W gx_tb gx_tb.length E s σ τ H locs → lv_has ls 13 [(0, .ref (E.2.2 + 199)), (1, .int x1), (2, .int x2), (3, .int x3), (4, .int x4), (5, .long 0), (7, .long x7), (9, .int x9)] → W P9 l e9 (gx_rm 102) s m9 av.toArray below meth C9 H locs 0 0 (gq_Qi below av s E r σ1 τ1) (F0 m9 96 ls [])) (σ : gI) (τ : gJ) (x1 : Int32) (x2 : Int32) (x3 : Int32) (x4 : Int32) (x7 : Int64) (x9 : Int32) {r : Int32} {σ1 : gI} {τ1 : gJ} (h : C_X12_odds_96 N rec_96 σ τ x1 x2 x3 x4 x7 x9 = some (r, σ1, τ1)) {H : Heap} {locs : List Loc} {ls : Array Slot} (hw : gx_W gx_tb gx_tb.length E s σ τ H locs) (hl : lv_has ls 13 [(0, .ref (E.2.2 + 199)), (1, .int x1), (2, .int x2), (3, .int x3), (4, .int x4), (5, .long 0), (7, .long x7), (9, .int x9)]) : W P9 l e9 (gx_rm 102) s m9 av.toArray below meth C9 H locs 0 0 (gq_Qi below av s E r σ1 τ1) (F0 m9 96 ls []) := by
  have hx := S.1
  have hb := S.2.1
  unfold C_X12_odds_96 at h
  refine lv_iload hx hb dX12_odds_96 (lv_at hl 7 rfl) ?_
  refine lv_iload hx hb dX12_odds_98 (lv_at hl 4 rfl) ?_
  refine lv_icmp_ge (tgt := 117) hx hb dX12_odds_100 (by decide) (fun c_1 => ?_) (fun c_1 => ?_)
  · rw [if_pos c_1] at h
    refine lv_iconst (v := 0) hx hb dX12_odds_117 (by decide) ?_
    refine lv_istore (lv' := [(9, .int 0), (0, .ref (E.2.2 + 199)), (1, .int x1), (2, .int x2), (3, .int x3), (4, .int x4), (5, .long 0), (7, .long x7)]) hx hb dX12_odds_118 hl (by decide) rfl (fun ls hl => ?_)
    exact h_X12_odds_120 l S hr hlk hK N N σ τ x1 x2 x3 x4 0 x7 0 _ _ _ h _ _ _ hw (lv_sub hl [1, 2, 3, 4, 5, 6, 7, 0] rfl)
  · rw [if_neg c_1] at h
    refine lv_lload hx hb dX12_odds_103 (lv_at hl 6 rfl) ?_
    refine lv_ldc2 (v := 10) hx hb S.2.2.2.1 (S.2.2.2.2 _ mw_2069) dX12_odds_105 ?_
    refine lv_lmul hx hb dX12_odds_108 ?_
    refine lv_lstore (lv' := [(7, .long (x7 * 10)), (0, .ref (E.2.2 + 199)), (1, .int x1), (2, .int x2), (3, .int x3), (4, .int x4), (5, .long 0), (9, .int x9)]) hx hb dX12_odds_109 hl (by decide) rfl (fun ls hl => ?_)
    obtain ⟨v_2, e_2, h⟩ := nm_some h
    have hl : lv_has ls 13 [(7, .long v_2), (0, .ref (E.2.2 + 199)), (1, .int x1), (2, .int x2), (3, .int x3), (4, .int x4), (5, .long 0), (9, .int x9)] := by rw [e_2]; exact hl
    refine lv_iinc (v := x9 + 1) (lv' := [(9, .int (x9 + 1)), (7, .long v_2), (0, .ref (E.2.2 + 199)), (1, .int x1), (2, .int x2), (3, .int x3), (4, .int x4), (5, .long 0)]) hx hb dX12_odds_111 hl (k := 7) rfl rfl (by decide) rfl (fun ls hl => ?_)
    obtain ⟨v_3, e_3, h⟩ := nm_some h
    have hl : lv_has ls 13 [(9, .int v_3), (7, .long v_2), (0, .ref (E.2.2 + 199)), (1, .int x1), (2, .int x2), (3, .int x3), (4, .int x4), (5, .long 0)] := by rw [e_3]; exact hl
    refine lv_goto (tgt := 96) hx hb dX12_odds_114 (by decide) ?_
    exact hrec_96 σ τ x1 x2 x3 x4 v_2 v_3 _ _ _ _ _ _ h hw (lv_sub hl [2, 3, 4, 5, 6, 7, 1, 0] rfl)
set_option maxHeartbeats 4000000 in
set_option maxRecDepth 100000 in
theorem h_X12_odds_96 (l : Launch) (S : CallFix P9 m9 C9 cX12_odds 13 s av.toArray gx_G RX12) (hr : meth.sig.returnType = (some .int)) (hlk : meth.locks = false) (hK : gx_K E s) (N : Nat) : ∀ (n : Nat) (σ : gI) (τ : gJ) (x1 : Int32) (x2 : Int32) (x3 : Int32) (x4 : Int32) (x7 : Int64) (x9 : Int32) (r : Int32) (σ1 : gI) (τ1 : gJ), H_X12_odds_96 N n σ τ x1 x2 x3 x4 x7 x9 = some (r, σ1, τ1) → ∀ (H : Heap) (locs : List Loc) (ls : Array Slot), gx_W gx_tb gx_tb.length E s σ τ H locs → lv_has ls 13 [(0, .ref (E.2.2 + 199)), (1, .int x1), (2, .int x2), (3, .int x3), (4, .int x4), (5, .long 0), (7, .long x7), (9, .int x9)] → W P9 l e9 (gx_rm 102) s m9 av.toArray below meth C9 H locs 0 0 (gq_Qi below av s E r σ1 τ1) (F0 m9 96 ls []) := by
  intro n
  induction n with
  | zero => intro σ τ x1 x2 x3 x4 x7 x9 r σ1 τ1 h; cases h
  | succ n ih =>
    intro σ τ x1 x2 x3 x4 x7 x9 r σ1 τ1 h H locs ls hw hl
    exact k_X12_odds_96 l S hr hlk hK N (H_X12_odds_96 N n) (fun σ τ x1 x2 x3 x4 x7 x9 r σ1 τ1 H locs ls h hw hl => ih σ τ x1 x2 x3 x4 x7 x9 r σ1 τ1 h H locs ls hw hl) σ τ x1 x2 x3 x4 x7 x9 h hw hl
set_option maxHeartbeats 4000000 in
set_option maxRecDepth 100000 in
theorem k_X12_odds_59 (l : Launch) (S : CallFix P9 m9 C9 cX12_odds 13 s av.toArray gx_G RX12) (hr : meth.sig.returnType = (some .int)) (hlk : meth.locks = false) (hK : gx_K E s) (N : Nat) (rec_59 : gI → gJ → Int32 → Int32 → Int32 → Int32 → Option (Int32 × gI × gJ)) (hrec_59 : ∀ (σ : gI) (τ : gJ) (x1 : Int32) (x2 : Int32) (x3 : Int32) (x4 : Int32) (r : Int32) (σ1 : gI) (τ1 : gJ) (H : Heap) (locs : List Loc) (ls : Array Slot), rec_59 σ τ x1 x2 x3 x4 = some (r, σ1, τ1) → gx_W gx_tb gx_tb.length E s σ τ H locs → lv_has ls 13 [(0, .ref (E.2.2 + 199)), (1, .int x1), (2, .int x2), (3, .int x3), (4, .int x4)] → W P9 l e9 (gx_rm 102) s m9 av.toArray below meth C9 H locs 0 0 (gq_Qi below av s E r σ1 τ1) (F0 m9 59 ls [])) (σ : gI) (τ : gJ) (x1 : Int32) (x2 : Int32) (x3 : Int32) (x4 : Int32) {r : Int32} {σ1 : gI} {τ1 : gJ} (h : C_X12_odds_59 N rec_59 σ τ x1 x2 x3 x4 = some (r, σ1, τ1)) {H : Heap} {locs : List Loc} {ls : Array Slot} (hw : gx_W gx_tb gx_tb.length E s σ τ H locs) (hl : lv_has ls 13 [(0, .ref (E.2.2 + 199)), (1, .int x1), (2, .int x2), (3, .int x3), (4, .int x4)]) : W P9 l e9 (gx_rm 102) s m9 av.toArray below meth C9 H locs 0 0 (gq_Qi below av s E r σ1 τ1) (F0 m9 59 ls []) := by
  have hx := S.1
  have hb := S.2.1
  unfold C_X12_odds_59 at h
  refine lv_bipush (v := 10) hx hb dX12_odds_59 (by decide) ?_
  refine lv_aload_n hx hb dX12_odds_61 rfl (lv_at hl 0 rfl) ?_
  refine gx_get S hK hw t_199 cl_13 32 (by decide) rfl mw_1446 rfl dX12_odds_62 ?_
  refine lv_iload hx hb dX12_odds_65 (lv_at hl 4 rfl) ?_
  refine lv_iadd hx hb dX12_odds_67 ?_
  refine lv_imul hx hb dX12_odds_68 ?_
  refine lv_aload_n hx hb dX12_odds_69 rfl (lv_at hl 0 rfl) ?_
  refine gx_getr (j := 206) S hK hw t_199 cl_13 10 (by decide) rfl mw_1424 rfl dX12_odds_70 ?_
  refine lv_bipush (v := 43) hx hb dX12_odds_73 (by decide) ?_
  refine gx_iald S hK hw t_206 43 rfl (gx_in rfl (by decide) (by decide)) dX12_odds_75 ?_
  refine lv_iload_n hx hb dX12_odds_76 rfl (lv_at hl 2 rfl) ?_
  refine lv_iadd hx hb dX12_odds_77 ?_
  refine lv_icmp_ge (tgt := 87) hx hb dX12_odds_78 (by decide) (fun c_1 => ?_) (fun c_1 => ?_)
  · rw [if_pos c_1] at h
    refine lv_lconst (v := 0) hx hb dX12_odds_87 (by decide) ?_
    refine lv_lstore (lv' := [(5, .long 0), (0, .ref (E.2.2 + 199)), (1, .int x1), (2, .int x2), (3, .int x3), (4, .int x4)]) hx hb dX12_odds_88 hl (by decide) rfl (fun ls hl => ?_)
    refine lv_lconst (v := 1) hx hb dX12_odds_90 (by decide) ?_
    refine lv_lstore (lv' := [(7, .long 1), (5, .long 0), (0, .ref (E.2.2 + 199)), (1, .int x1), (2, .int x2), (3, .int x3), (4, .int x4)]) hx hb dX12_odds_91 hl (by decide) rfl (fun ls hl => ?_)
    refine lv_iconst (v := 0) hx hb dX12_odds_93 (by decide) ?_
    refine lv_istore (lv' := [(9, .int 0), (7, .long 1), (5, .long 0), (0, .ref (E.2.2 + 199)), (1, .int x1), (2, .int x2), (3, .int x3), (4, .int x4)]) hx hb dX12_odds_94 hl (by decide) rfl (fun ls hl => ?_)
    exact h_X12_odds_96 l S hr hlk hK N N σ τ x1 x2 x3 x4 1 0 _ _ _ h _ _ _ hw (lv_sub hl [3, 4, 5, 6, 7, 2, 1, 0] rfl)
  · rw [if_neg c_1] at h
    refine lv_iinc (v := x4 + 1) (lv' := [(4, .int (x4 + 1)), (0, .ref (E.2.2 + 199)), (1, .int x1), (2, .int x2), (3, .int x3)]) hx hb dX12_odds_81 hl (k := 4) rfl rfl (by decide) rfl (fun ls hl => ?_)
    obtain ⟨v_2, e_2, h⟩ := nm_some h
    have hl : lv_has ls 13 [(4, .int v_2), (0, .ref (E.2.2 + 199)), (1, .int x1), (2, .int x2), (3, .int x3)] := by rw [e_2]; exact hl
    refine lv_goto (tgt := 59) hx hb dX12_odds_84 (by decide) ?_
    exact hrec_59 σ τ x1 x2 x3 v_2 _ _ _ _ _ _ h hw (lv_sub hl [1, 2, 3, 4, 0] rfl)
set_option maxHeartbeats 4000000 in
set_option maxRecDepth 100000 in
theorem h_X12_odds_59 (l : Launch) (S : CallFix P9 m9 C9 cX12_odds 13 s av.toArray gx_G RX12) (hr : meth.sig.returnType = (some .int)) (hlk : meth.locks = false) (hK : gx_K E s) (N : Nat) : ∀ (n : Nat) (σ : gI) (τ : gJ) (x1 : Int32) (x2 : Int32) (x3 : Int32) (x4 : Int32) (r : Int32) (σ1 : gI) (τ1 : gJ), H_X12_odds_59 N n σ τ x1 x2 x3 x4 = some (r, σ1, τ1) → ∀ (H : Heap) (locs : List Loc) (ls : Array Slot), gx_W gx_tb gx_tb.length E s σ τ H locs → lv_has ls 13 [(0, .ref (E.2.2 + 199)), (1, .int x1), (2, .int x2), (3, .int x3), (4, .int x4)] → W P9 l e9 (gx_rm 102) s m9 av.toArray below meth C9 H locs 0 0 (gq_Qi below av s E r σ1 τ1) (F0 m9 59 ls []) := by
  intro n
  induction n with
  | zero => intro σ τ x1 x2 x3 x4 r σ1 τ1 h; cases h
  | succ n ih =>
    intro σ τ x1 x2 x3 x4 r σ1 τ1 h H locs ls hw hl
    exact k_X12_odds_59 l S hr hlk hK N (H_X12_odds_59 N n) (fun σ τ x1 x2 x3 x4 r σ1 τ1 H locs ls h hw hl => ih σ τ x1 x2 x3 x4 r σ1 τ1 h H locs ls hw hl) σ τ x1 x2 x3 x4 h hw hl
set_option maxHeartbeats 4000000 in
set_option maxRecDepth 100000 in
theorem b_X12_odds_0 (l : Launch) (S : CallFix P9 m9 C9 cX12_odds 13 s av.toArray gx_G RX12) (hr : meth.sig.returnType = (some .int)) (hlk : meth.locks = false) (hK : gx_K E s) (N : Nat) (σ : gI) (τ : gJ) (x1 : Int32) (x2 : Int32) (x3 : Int32) {r : Int32} {σ1 : gI} {τ1 : gJ} (h : B_X12_odds_0 N σ τ x1 x2 x3 = some (r, σ1, τ1)) {H : Heap} {locs : List Loc} {ls : Array Slot} (hw : gx_W gx_tb gx_tb.length E s σ τ H locs) (hl : lv_has ls 13 [(0, .ref (E.2.2 + 199)), (1, .int x1), (2, .int x2), (3, .int x3)]) : W P9 l e9 (gx_rm 102) s m9 av.toArray below meth C9 H locs 0 0 (gq_Qi below av s E r σ1 τ1) (F0 m9 0 ls []) := by
  have hx := S.1
  have hb := S.2.1
  unfold B_X12_odds_0 at h
  refine lv_aload_n hx hb dX12_odds_0 rfl (lv_at hl 0 rfl) ?_
  refine lv_iconst (v := 0) hx hb dX12_odds_1 (by decide) ?_
  refine gx_put S hK gx_ok hw t_199 cl_13 0 (by decide) rfl mw_1414 rfl rfl (ty := .int) (v := 0) (by decide +kernel) rfl rfl dX12_odds_2 (fun H locs hw => ?_)
  obtain ⟨σ_1, e_1, h⟩ := nm_some h
  rw [← e_1] at hw
  refine lv_aload_n hx hb dX12_odds_5 rfl (lv_at hl 0 rfl) ?_
  refine lv_iload_n hx hb dX12_odds_6 rfl (lv_at hl 1 rfl) ?_
  obtain ⟨r_2, σ_2, τ_2, q_2, h⟩ := bd_some h
  refine gx_cVi (As := [.int x1]) (rest := []) S hK gx_ok hw (c_X12_isThing l (E := E) N σ_1 τ x1 q_2) cw_X12_309 t_199 cl_13 ⟨Nat.le_of_ble_eq_true rfl, Nat.le_of_ble_eq_true rfl⟩ rfl hl.1 rfl (Nat.le_of_ble_eq_true rfl) ⟨Nat.le_of_ble_eq_true rfl, Nat.le_of_ble_eq_true rfl⟩ dX12_odds_7 (fun r9 σ9 τ9 H locs hp hw => ?_)
  obtain ⟨rfl, rfl, rfl⟩ := hp
  refine lv_if_eq (tgt := 37) hx hb dX12_odds_10 (by decide) (fun c_3 => ?_) (fun c_3 => ?_)
  · rw [if_pos c_3] at h
    refine lv_iconst (v := (-1)) hx hb dX12_odds_37 (by decide) ?_
    obtain ⟨rfl, rfl, rfl⟩ := sm_inj h
    exact gx_ri (post := gq_p (-1) σ_2 τ_2) (v := (-1)) S hr hlk hw rfl dX12_odds_38 ⟨rfl, rfl, rfl⟩
  · rw [if_neg c_3] at h
    refine lv_iload_n hx hb dX12_odds_13 rfl (lv_at hl 2 rfl) ?_
    refine lv_i2l (v := x2.toInt64) hx hb dX12_odds_14 rfl ?_
    refine lv_lconst (v := 0) hx hb dX12_odds_15 (by decide) ?_
    refine lv_ldc2 (v := 60) hx hb S.2.2.2.1 (S.2.2.2.2 _ mw_2068) dX12_odds_16 ?_
    obtain ⟨r_4, σ_4, τ_4, q_4, h⟩ := bd_some h
    refine gx_cSi (As := [.long x2.toInt64, .long 0, .long 60]) (rest := []) S hK gx_ok hw (c_X12_in l (E := E) N σ_2 τ_2 x2.toInt64 0 60 q_4) cw_X12_129 ⟨Nat.le_of_ble_eq_true rfl, Nat.le_of_ble_eq_true rfl⟩ rfl hl.1 rfl (Nat.le_of_ble_eq_true rfl) ⟨Nat.le_of_ble_eq_true rfl, Nat.le_of_ble_eq_true rfl⟩ dX12_odds_19 (fun r9 σ9 τ9 H locs hp hw => ?_)
    obtain ⟨rfl, rfl, rfl⟩ := hp
    refine lv_if_eq (tgt := 37) hx hb dX12_odds_22 (by decide) (fun c_5 => ?_) (fun c_5 => ?_)
    · rw [if_pos c_5] at h
      refine lv_iconst (v := (-1)) hx hb dX12_odds_37 (by decide) ?_
      obtain ⟨rfl, rfl, rfl⟩ := sm_inj h
      exact gx_ri (post := gq_p (-1) σ_4 τ_4) (v := (-1)) S hr hlk hw rfl dX12_odds_38 ⟨rfl, rfl, rfl⟩
    · rw [if_neg c_5] at h
      refine lv_iload_n hx hb dX12_odds_25 rfl (lv_at hl 3 rfl) ?_
      refine lv_i2l (v := x3.toInt64) hx hb dX12_odds_26 rfl ?_
      refine lv_lconst (v := 0) hx hb dX12_odds_27 (by decide) ?_
      refine lv_ldc2 (v := 10) hx hb S.2.2.2.1 (S.2.2.2.2 _ mw_2069) dX12_odds_28 ?_
      obtain ⟨r_6, σ_6, τ_6, q_6, h⟩ := bd_some h
      refine gx_cSi (As := [.long x3.toInt64, .long 0, .long 10]) (rest := []) S hK gx_ok hw (c_X12_in l (E := E) N σ_4 τ_4 x3.toInt64 0 10 q_6) cw_X12_129 ⟨Nat.le_of_ble_eq_true rfl, Nat.le_of_ble_eq_true rfl⟩ rfl hl.1 rfl (Nat.le_of_ble_eq_true rfl) ⟨Nat.le_of_ble_eq_true rfl, Nat.le_of_ble_eq_true rfl⟩ dX12_odds_31 (fun r9 σ9 τ9 H locs hp hw => ?_)
      obtain ⟨rfl, rfl, rfl⟩ := hp
      refine lv_if_ne (tgt := 39) hx hb dX12_odds_34 (by decide) (fun c_7 => ?_) (fun c_7 => ?_)
      · rw [if_neg c_7] at h
        refine lv_aload_n hx hb dX12_odds_39 rfl (lv_at hl 0 rfl) ?_
        refine lv_aload_n hx hb dX12_odds_40 rfl (lv_at hl 0 rfl) ?_
        refine gx_getr (j := 206) S hK hw t_199 cl_13 10 (by decide) rfl mw_1424 rfl dX12_odds_41 ?_
        refine lv_bipush (v := 43) hx hb dX12_odds_44 (by decide) ?_
        refine gx_iald S hK hw t_206 43 rfl (gx_in rfl (by decide) (by decide)) dX12_odds_46 ?_
        refine lv_bipush (v := 9) hx hb dX12_odds_47 (by decide) ?_
        refine lv_iadd hx hb dX12_odds_49 ?_
        refine lv_bipush (v := 10) hx hb dX12_odds_50 (by decide) ?_
        refine lv_idiv hx hb dX12_odds_52 (by decide) ?_
        refine gx_put S hK gx_ok hw t_199 cl_13 32 (by decide) rfl mw_1446 rfl rfl (ty := .int) (v := ((σ_6 206 43) + 9) / 10) (by decide +kernel) rfl rfl dX12_odds_53 (fun H locs hw => ?_)
        obtain ⟨σ_8, e_8, h⟩ := nm_some h
        rw [← e_8] at hw
        refine lv_iconst (v := 0) hx hb dX12_odds_56 (by decide) ?_
        refine lv_istore (lv' := [(4, .int 0), (0, .ref (E.2.2 + 199)), (1, .int x1), (2, .int x2), (3, .int x3)]) hx hb dX12_odds_57 hl (by decide) rfl (fun ls hl => ?_)
        exact h_X12_odds_59 l S hr hlk hK N N σ_8 τ_6 x1 x2 x3 0 _ _ _ h _ _ _ hw (lv_sub hl [1, 2, 3, 4, 0] rfl)
      · rw [if_pos c_7] at h
        refine lv_iconst (v := (-1)) hx hb dX12_odds_37 (by decide) ?_
        obtain ⟨rfl, rfl, rfl⟩ := sm_inj h
        exact gx_ri (post := gq_p (-1) σ_6 τ_6) (v := (-1)) S hr hlk hw rfl dX12_odds_38 ⟨rfl, rfl, rfl⟩
set_option maxHeartbeats 4000000 in
set_option maxRecDepth 100000 in
theorem c_X12_odds (l : Launch) {E : gE} (N : Nat) (σ : gI) (τ : gJ) (x1 : Int32) (x2 : Int32) (x3 : Int32) {r : Int32} {σ1 : gI} {τ1 : gJ} (h : B_X12_odds_0 N σ τ x1 x2 x3 = some (r, σ1, τ1)) : gx_Mi l yX12_odds cX12_odds 13 (some .int) 102 gx_tb E σ τ [.ref (E.2.2 + 199), .int x1, .int x2, .int x3] (gq_p r σ1 τ1) := by
  refine gx_bi (by decide +kernel) (Nat.le_of_ble_eq_true rfl) ?_
  intro P9 e9 s m9 below meth C9 S hr hlk hK hw ls hl
  have hl : lv_has ls 13 [(0, .ref (E.2.2 + 199)), (1, .int x1), (2, .int x2), (3, .int x3)] := hl
  exact b_X12_odds_0 l S hr hlk hK N σ τ x1 x2 x3 h hw hl
/-! X12_refuse -/
def B_X12_refuse_0 (N : Nat) (σ : gI) (τ : gJ) : Option (Int32 × gI × gJ) := nm (up2 σ 199 0 1) fun σ_1 => some (0, σ_1, τ)
set_option maxHeartbeats 4000000 in
set_option maxRecDepth 100000 in
theorem b_X12_refuse_0 (l : Launch) (S : CallFix P9 m9 C9 cX12_refuse 1 s av.toArray gx_G RX12) (hr : meth.sig.returnType = (some .int)) (hlk : meth.locks = false) (hK : gx_K E s) (N : Nat) (σ : gI) (τ : gJ) {r : Int32} {σ1 : gI} {τ1 : gJ} (h : B_X12_refuse_0 N σ τ = some (r, σ1, τ1)) {H : Heap} {locs : List Loc} {ls : Array Slot} (hw : gx_W gx_tb gx_tb.length E s σ τ H locs) (hl : lv_has ls 1 [(0, .ref (E.2.2 + 199))]) : W P9 l e9 (gx_rm 0) s m9 av.toArray below meth C9 H locs 0 0 (gq_Qi below av s E r σ1 τ1) (F0 m9 0 ls []) := by
  have hx := S.1
  have hb := S.2.1
  unfold B_X12_refuse_0 at h
  refine lv_aload_n hx hb dX12_refuse_0 rfl (lv_at hl 0 rfl) ?_
  refine lv_iconst (v := 1) hx hb dX12_refuse_1 (by decide) ?_
  refine gx_put S hK gx_ok hw t_199 cl_13 0 (by decide) rfl mw_1414 rfl rfl (ty := .int) (v := 1) (by decide +kernel) rfl rfl dX12_refuse_2 (fun H locs hw => ?_)
  obtain ⟨σ_1, e_1, h⟩ := nm_some h
  rw [← e_1] at hw
  refine lv_iconst (v := 0) hx hb dX12_refuse_5 (by decide) ?_
  obtain ⟨rfl, rfl, rfl⟩ := sm_inj h
  exact gx_ri (post := gq_p 0 σ_1 τ) (v := 0) S hr hlk hw rfl dX12_refuse_6 ⟨rfl, rfl, rfl⟩
set_option maxHeartbeats 4000000 in
set_option maxRecDepth 100000 in
theorem c_X12_refuse (l : Launch) {E : gE} (N : Nat) (σ : gI) (τ : gJ) {r : Int32} {σ1 : gI} {τ1 : gJ} (h : B_X12_refuse_0 N σ τ = some (r, σ1, τ1)) : gx_Mi l yX12_refuse cX12_refuse 1 (some .int) 0 gx_tb E σ τ [.ref (E.2.2 + 199)] (gq_p r σ1 τ1) := by
  refine gx_bi (by decide +kernel) (Nat.le_of_ble_eq_true rfl) ?_
  intro P9 e9 s m9 below meth C9 S hr hlk hK hw ls hl
  have hl : lv_has ls 1 [(0, .ref (E.2.2 + 199))] := hl
  exact b_X12_refuse_0 l S hr hlk hK N σ τ h hw hl
/-! X12_of -/
def B_X12_of_0 (N : Nat) (σ : gI) (τ : gJ) (x1 : Int32) (x2 : Int32) : Option (Int32 × gI × gJ) := nm (up2 σ 199 0 0) fun σ_1 => bd (B_X12_isThing_0 N σ_1 τ x1) fun r_2 σ_2 τ_2 => if r_2 = 0 then (bd (B_X12_refuse_0 N σ_2 τ_2) fun r_4 σ_4 τ_4 => some (r_4, σ_4, τ_4)) else (bd (B_X12_in_0 N σ_2 τ_2 x2.toInt64 0 6) fun r_5 σ_5 τ_5 => if r_5 = 0 then (bd (B_X12_refuse_0 N σ_5 τ_5) fun r_12 σ_12 τ_12 => some (r_12, σ_12, τ_12)) else (ck ((7 * x1) + x2) 45 fun j_7 => nm (σ_5 206 j_7) fun v_8 => if x2 = 5 then (ck ((7 * x1) + 4) 45 fun j_10 => if σ_5 206 j_10 = 0 then (some (imax 0 (v_8 - (σ_5 206 43)), σ_5, τ_5)) else (some (0, σ_5, τ_5))) else (some (v_8, σ_5, τ_5))))
set_option maxHeartbeats 4000000 in
set_option maxRecDepth 100000 in
theorem b_X12_of_0 (l : Launch) (S : CallFix P9 m9 C9 cX12_of 4 s av.toArray gx_G RX12) (hr : meth.sig.returnType = (some .int)) (hlk : meth.locks = false) (hK : gx_K E s) (N : Nat) (σ : gI) (τ : gJ) (x1 : Int32) (x2 : Int32) {r : Int32} {σ1 : gI} {τ1 : gJ} (h : B_X12_of_0 N σ τ x1 x2 = some (r, σ1, τ1)) {H : Heap} {locs : List Loc} {ls : Array Slot} (hw : gx_W gx_tb gx_tb.length E s σ τ H locs) (hl : lv_has ls 4 [(0, .ref (E.2.2 + 199)), (1, .int x1), (2, .int x2)]) : W P9 l e9 (gx_rm 2) s m9 av.toArray below meth C9 H locs 0 0 (gq_Qi below av s E r σ1 τ1) (F0 m9 0 ls []) := by
  have hx := S.1
  have hb := S.2.1
  unfold B_X12_of_0 at h
  refine lv_aload_n hx hb dX12_of_0 rfl (lv_at hl 0 rfl) ?_
  refine lv_iconst (v := 0) hx hb dX12_of_1 (by decide) ?_
  refine gx_put S hK gx_ok hw t_199 cl_13 0 (by decide) rfl mw_1414 rfl rfl (ty := .int) (v := 0) (by decide +kernel) rfl rfl dX12_of_2 (fun H locs hw => ?_)
  obtain ⟨σ_1, e_1, h⟩ := nm_some h
  rw [← e_1] at hw
  refine lv_aload_n hx hb dX12_of_5 rfl (lv_at hl 0 rfl) ?_
  refine lv_iload_n hx hb dX12_of_6 rfl (lv_at hl 1 rfl) ?_
  obtain ⟨r_2, σ_2, τ_2, q_2, h⟩ := bd_some h
  refine gx_cVi (As := [.int x1]) (rest := []) S hK gx_ok hw (c_X12_isThing l (E := E) N σ_1 τ x1 q_2) cw_X12_309 t_199 cl_13 ⟨Nat.le_of_ble_eq_true rfl, Nat.le_of_ble_eq_true rfl⟩ rfl hl.1 rfl (Nat.le_of_ble_eq_true rfl) ⟨Nat.le_of_ble_eq_true rfl, Nat.le_of_ble_eq_true rfl⟩ dX12_of_7 (fun r9 σ9 τ9 H locs hp hw => ?_)
  obtain ⟨rfl, rfl, rfl⟩ := hp
  refine lv_if_eq (tgt := 25) hx hb dX12_of_10 (by decide) (fun c_3 => ?_) (fun c_3 => ?_)
  · rw [if_pos c_3] at h
    refine lv_aload_n hx hb dX12_of_25 rfl (lv_at hl 0 rfl) ?_
    obtain ⟨r_4, σ_4, τ_4, q_4, h⟩ := bd_some h
    refine gx_cVi (As := []) (rest := []) S hK gx_ok hw (c_X12_refuse l (E := E) N σ_2 τ_2 q_4) cw_X12_306 t_199 cl_13 ⟨Nat.le_of_ble_eq_true rfl, Nat.le_of_ble_eq_true rfl⟩ rfl hl.1 rfl (Nat.le_of_ble_eq_true rfl) ⟨Nat.le_of_ble_eq_true rfl, Nat.le_of_ble_eq_true rfl⟩ dX12_of_26 (fun r9 σ9 τ9 H locs hp hw => ?_)
    obtain ⟨rfl, rfl, rfl⟩ := hp
    obtain ⟨rfl, rfl, rfl⟩ := sm_inj h
    exact gx_ri (post := gq_p r_4 σ_4 τ_4) (v := r_4) S hr hlk hw rfl dX12_of_29 ⟨rfl, rfl, rfl⟩
  · rw [if_neg c_3] at h
    refine lv_iload_n hx hb dX12_of_13 rfl (lv_at hl 2 rfl) ?_
    refine lv_i2l (v := x2.toInt64) hx hb dX12_of_14 rfl ?_
    refine lv_lconst (v := 0) hx hb dX12_of_15 (by decide) ?_
    refine lv_ldc2 (v := 6) hx hb S.2.2.2.1 (S.2.2.2.2 _ mw_1802) dX12_of_16 ?_
    obtain ⟨r_5, σ_5, τ_5, q_5, h⟩ := bd_some h
    refine gx_cSi (As := [.long x2.toInt64, .long 0, .long 6]) (rest := []) S hK gx_ok hw (c_X12_in l (E := E) N σ_2 τ_2 x2.toInt64 0 6 q_5) cw_X12_129 ⟨Nat.le_of_ble_eq_true rfl, Nat.le_of_ble_eq_true rfl⟩ rfl hl.1 rfl (Nat.le_of_ble_eq_true rfl) ⟨Nat.le_of_ble_eq_true rfl, Nat.le_of_ble_eq_true rfl⟩ dX12_of_19 (fun r9 σ9 τ9 H locs hp hw => ?_)
    obtain ⟨rfl, rfl, rfl⟩ := hp
    refine lv_if_ne (tgt := 30) hx hb dX12_of_22 (by decide) (fun c_6 => ?_) (fun c_6 => ?_)
    · rw [if_neg c_6] at h
      refine lv_aload_n hx hb dX12_of_30 rfl (lv_at hl 0 rfl) ?_
      refine gx_getr (j := 206) S hK hw t_199 cl_13 10 (by decide) rfl mw_1424 rfl dX12_of_31 ?_
      refine lv_bipush (v := 7) hx hb dX12_of_34 (by decide) ?_
      refine lv_iload_n hx hb dX12_of_36 rfl (lv_at hl 1 rfl) ?_
      refine lv_imul hx hb dX12_of_37 ?_
      refine lv_iload_n hx hb dX12_of_38 rfl (lv_at hl 2 rfl) ?_
      refine lv_iadd hx hb dX12_of_39 ?_
      obtain ⟨j_7, hj_7, hi_7, h⟩ := ck_some h
      refine gx_iald S hK hw t_206 j_7 hj_7 hi_7 dX12_of_40 ?_
      refine lv_istore_n (lv' := [(3, .int (σ_5 206 j_7)), (0, .ref (E.2.2 + 199)), (1, .int x1), (2, .int x2)]) hx hb dX12_of_41 rfl hl (by decide) rfl (fun ls hl => ?_)
      obtain ⟨v_8, e_8, h⟩ := nm_some h
      have hl : lv_has ls 4 [(3, .int v_8), (0, .ref (E.2.2 + 199)), (1, .int x1), (2, .int x2)] := by rw [e_8]; exact hl
      refine lv_iload_n hx hb dX12_of_42 rfl (lv_at hl 3 rfl) ?_
      refine lv_iconst (v := 5) hx hb dX12_of_43 (by decide) ?_
      refine lv_icmp_ne (tgt := 81) hx hb dX12_of_44 (by decide) (fun c_9 => ?_) (fun c_9 => ?_)
      · rw [if_neg c_9] at h
        refine lv_iload_n hx hb dX12_of_81 rfl (lv_at hl 0 rfl) ?_
        obtain ⟨rfl, rfl, rfl⟩ := sm_inj h
        exact gx_ri (post := gq_p v_8 σ_5 τ_5) (v := v_8) S hr hlk hw rfl dX12_of_82 ⟨rfl, rfl, rfl⟩
      · rw [if_pos c_9] at h
        refine lv_aload_n hx hb dX12_of_47 rfl (lv_at hl 1 rfl) ?_
        refine gx_getr (j := 206) S hK hw t_199 cl_13 10 (by decide) rfl mw_1424 rfl dX12_of_48 ?_
        refine lv_bipush (v := 7) hx hb dX12_of_51 (by decide) ?_
        refine lv_iload_n hx hb dX12_of_53 rfl (lv_at hl 2 rfl) ?_
        refine lv_imul hx hb dX12_of_54 ?_
        refine lv_iconst (v := 4) hx hb dX12_of_55 (by decide) ?_
        refine lv_iadd hx hb dX12_of_56 ?_
        obtain ⟨j_10, hj_10, hi_10, h⟩ := ck_some h
        refine gx_iald S hK hw t_206 j_10 hj_10 hi_10 dX12_of_57 ?_
        refine lv_if_ne (tgt := 77) hx hb dX12_of_58 (by decide) (fun c_11 => ?_) (fun c_11 => ?_)
        · rw [if_neg c_11] at h
          refine lv_iconst (v := 0) hx hb dX12_of_77 (by decide) ?_
          refine lv_goto (tgt := 82) hx hb dX12_of_78 (by decide) ?_
          obtain ⟨rfl, rfl, rfl⟩ := sm_inj h
          exact gx_ri (post := gq_p 0 σ_5 τ_5) (v := 0) S hr hlk hw rfl dX12_of_82 ⟨rfl, rfl, rfl⟩
        · rw [if_pos c_11] at h
          refine lv_iconst (v := 0) hx hb dX12_of_61 (by decide) ?_
          refine lv_iload_n hx hb dX12_of_62 rfl (lv_at hl 0 rfl) ?_
          refine lv_aload_n hx hb dX12_of_63 rfl (lv_at hl 1 rfl) ?_
          refine gx_getr (j := 206) S hK hw t_199 cl_13 10 (by decide) rfl mw_1424 rfl dX12_of_64 ?_
          refine lv_bipush (v := 43) hx hb dX12_of_67 (by decide) ?_
          refine gx_iald S hK hw t_206 43 rfl (gx_in rfl (by decide) (by decide)) dX12_of_69 ?_
          refine lv_isub hx hb dX12_of_70 ?_
          refine gx_max (w := imax 0 (v_8 - (σ_5 206 43))) S hl.1 mw_1803 mw_577 mw_102 mw_578 ⟨Nat.le_of_ble_eq_true rfl, Nat.le_of_ble_eq_true rfl⟩ ⟨Nat.le_of_ble_eq_true rfl, Nat.le_of_ble_eq_true rfl⟩ dX12_of_71 rfl ?_
          refine lv_goto (tgt := 82) hx hb dX12_of_74 (by decide) ?_
          obtain ⟨rfl, rfl, rfl⟩ := sm_inj h
          exact gx_ri (post := gq_p (imax 0 (v_8 - (σ_5 206 43))) σ_5 τ_5) (v := imax 0 (v_8 - (σ_5 206 43))) S hr hlk hw rfl dX12_of_82 ⟨rfl, rfl, rfl⟩
    · rw [if_pos c_6] at h
      refine lv_aload_n hx hb dX12_of_25 rfl (lv_at hl 0 rfl) ?_
      obtain ⟨r_12, σ_12, τ_12, q_12, h⟩ := bd_some h
      refine gx_cVi (As := []) (rest := []) S hK gx_ok hw (c_X12_refuse l (E := E) N σ_5 τ_5 q_12) cw_X12_306 t_199 cl_13 ⟨Nat.le_of_ble_eq_true rfl, Nat.le_of_ble_eq_true rfl⟩ rfl hl.1 rfl (Nat.le_of_ble_eq_true rfl) ⟨Nat.le_of_ble_eq_true rfl, Nat.le_of_ble_eq_true rfl⟩ dX12_of_26 (fun r9 σ9 τ9 H locs hp hw => ?_)
      obtain ⟨rfl, rfl, rfl⟩ := hp
      obtain ⟨rfl, rfl, rfl⟩ := sm_inj h
      exact gx_ri (post := gq_p r_12 σ_12 τ_12) (v := r_12) S hr hlk hw rfl dX12_of_29 ⟨rfl, rfl, rfl⟩
set_option maxHeartbeats 4000000 in
set_option maxRecDepth 100000 in
theorem c_X12_of (l : Launch) {E : gE} (N : Nat) (σ : gI) (τ : gJ) (x1 : Int32) (x2 : Int32) {r : Int32} {σ1 : gI} {τ1 : gJ} (h : B_X12_of_0 N σ τ x1 x2 = some (r, σ1, τ1)) : gx_Mi l yX12_of cX12_of 4 (some .int) 2 gx_tb E σ τ [.ref (E.2.2 + 199), .int x1, .int x2] (gq_p r σ1 τ1) := by
  refine gx_bi (by decide +kernel) (Nat.le_of_ble_eq_true rfl) ?_
  intro P9 e9 s m9 below meth C9 S hr hlk hK hw ls hl
  have hl : lv_has ls 4 [(0, .ref (E.2.2 + 199)), (1, .int x1), (2, .int x2)] := hl
  exact b_X12_of_0 l S hr hlk hK N σ τ x1 x2 h hw hl
/-! X12_savedAfter -/
def C_X12_savedAfter_24 (N : Nat) (rec_24 : gI → gJ → Int32 → Int32 → Option (Int32 × gI × gJ)) (σ : gI) (τ : gJ) (x1 : Int32) (x3 : Int32) : Option (Int32 × gI × gJ) := if 300 < x3 then (some ((-1), σ, τ)) else (bd (B_X12_thoseHow_0 N 207 σ τ 1) fun r_2 σ_2 τ_2 => if r_2 &&& x1 = x1 then (some (x3, σ_2, τ_2)) else (bd (B_X12_thoseHow_0 N 207 σ_2 τ_2 2) fun r_4 σ_4 τ_4 => if r_4 &&& x1 = 0 then (if 300 ≤ x3 then (nm (x3 + 1) fun v_7 => rec_24 σ_4 τ_4 x1 v_7) else (bd (B_X12_minuteGoes_0 N 207 σ_4 τ_4) fun _ σ_8 τ_8 => nm (x3 + 1) fun v_9 => rec_24 σ_8 τ_8 x1 v_9)) else (some ((-1), σ_4, τ_4))))
def H_X12_savedAfter_24 (N : Nat) : Nat → gI → gJ → Int32 → Int32 → Option (Int32 × gI × gJ) := itn (fun rec_24 => C_X12_savedAfter_24 N rec_24) (fun _ _ _ _ => none)
def B_X12_savedAfter_0 (N : Nat) (σ : gI) (τ : gJ) (x1 : Int32) (x2 : Int32) : Option (Int32 × gI × gJ) := bd (B_X12_puts_0 N σ τ) fun _ σ_1 τ_1 => nm (up2 σ_1 207 42 ((σ_1 207 42) ^^^ x2)) fun σ_2 => H_X12_savedAfter_24 N N σ_2 τ_1 x1 0
set_option maxHeartbeats 4000000 in
set_option maxRecDepth 100000 in
theorem k_X12_savedAfter_24 (l : Launch) (S : CallFix P9 m9 C9 cX12_savedAfter 4 s av.toArray gx_G RX12) (hr : meth.sig.returnType = (some .int)) (hlk : meth.locks = false) (hK : gx_K E s) (N : Nat) (rec_24 : gI → gJ → Int32 → Int32 → Option (Int32 × gI × gJ)) (hrec_24 : ∀ (σ : gI) (τ : gJ) (x1 : Int32) (x3 : Int32) (r : Int32) (σ1 : gI) (τ1 : gJ) (H : Heap) (locs : List Loc) (ls : Array Slot), rec_24 σ τ x1 x3 = some (r, σ1, τ1) → gx_W gx_tb gx_tb.length E s σ τ H locs → lv_has ls 4 [(0, .ref (E.2.2 + 199)), (1, .int x1), (3, .int x3)] → W P9 l e9 (gx_rm 6) s m9 av.toArray below meth C9 H locs 0 0 (gq_Qi below av s E r σ1 τ1) (F0 m9 24 ls [])) (σ : gI) (τ : gJ) (x1 : Int32) (x3 : Int32) {r : Int32} {σ1 : gI} {τ1 : gJ} (h : C_X12_savedAfter_24 N rec_24 σ τ x1 x3 = some (r, σ1, τ1)) {H : Heap} {locs : List Loc} {ls : Array Slot} (hw : gx_W gx_tb gx_tb.length E s σ τ H locs) (hl : lv_has ls 4 [(0, .ref (E.2.2 + 199)), (1, .int x1), (3, .int x3)]) : W P9 l e9 (gx_rm 6) s m9 av.toArray below meth C9 H locs 0 0 (gq_Qi below av s E r σ1 τ1) (F0 m9 24 ls []) := by
  have hx := S.1
  have hb := S.2.1
  unfold C_X12_savedAfter_24 at h
  refine lv_iload_n hx hb dX12_savedAfter_24 rfl (lv_at hl 2 rfl) ?_
  refine lv_sipush (v := 300) hx hb dX12_savedAfter_25 (by decide) ?_
  refine lv_icmp_gt (tgt := 83) hx hb dX12_savedAfter_28 (by decide) (fun c_1 => ?_) (fun c_1 => ?_)
  · rw [if_pos c_1] at h
    refine lv_iconst (v := (-1)) hx hb dX12_savedAfter_83 (by decide) ?_
    obtain ⟨rfl, rfl, rfl⟩ := sm_inj h
    exact gx_ri (post := gq_p (-1) σ τ) (v := (-1)) S hr hlk hw rfl dX12_savedAfter_84 ⟨rfl, rfl, rfl⟩
  · rw [if_neg c_1] at h
    refine lv_aload_n hx hb dX12_savedAfter_31 rfl (lv_at hl 0 rfl) ?_
    refine gx_getr (j := 207) S hK hw t_199 cl_13 11 (by decide) rfl mw_1425 rfl dX12_savedAfter_32 ?_
    refine lv_iconst (v := 1) hx hb dX12_savedAfter_35 (by decide) ?_
    obtain ⟨r_2, σ_2, τ_2, q_2, h⟩ := bd_some h
    refine gx_cSi (As := [.ref (E.2.2 + 207), .int 1]) (rest := []) S hK gx_ok hw (c_X12_thoseHow l (E := E) N 207 t_207 σ τ 1 q_2) cw_X12_346 ⟨Nat.le_of_ble_eq_true rfl, Nat.le_of_ble_eq_true rfl⟩ rfl hl.1 rfl (Nat.le_of_ble_eq_true rfl) ⟨Nat.le_of_ble_eq_true rfl, Nat.le_of_ble_eq_true rfl⟩ dX12_savedAfter_36 (fun r9 σ9 τ9 H locs hp hw => ?_)
    obtain ⟨rfl, rfl, rfl⟩ := hp
    refine lv_iload_n hx hb dX12_savedAfter_39 rfl (lv_at hl 1 rfl) ?_
    refine lv_iand hx hb dX12_savedAfter_40 ?_
    refine lv_iload_n hx hb dX12_savedAfter_41 rfl (lv_at hl 1 rfl) ?_
    refine lv_icmp_ne (tgt := 47) hx hb dX12_savedAfter_42 (by decide) (fun c_3 => ?_) (fun c_3 => ?_)
    · rw [if_neg c_3] at h
      refine lv_aload_n hx hb dX12_savedAfter_47 rfl (lv_at hl 0 rfl) ?_
      refine gx_getr (j := 207) S hK hw t_199 cl_13 11 (by decide) rfl mw_1425 rfl dX12_savedAfter_48 ?_
      refine lv_iconst (v := 2) hx hb dX12_savedAfter_51 (by decide) ?_
      obtain ⟨r_4, σ_4, τ_4, q_4, h⟩ := bd_some h
      refine gx_cSi (As := [.ref (E.2.2 + 207), .int 2]) (rest := []) S hK gx_ok hw (c_X12_thoseHow l (E := E) N 207 t_207 σ_2 τ_2 2 q_4) cw_X12_346 ⟨Nat.le_of_ble_eq_true rfl, Nat.le_of_ble_eq_true rfl⟩ rfl hl.1 rfl (Nat.le_of_ble_eq_true rfl) ⟨Nat.le_of_ble_eq_true rfl, Nat.le_of_ble_eq_true rfl⟩ dX12_savedAfter_52 (fun r9 σ9 τ9 H locs hp hw => ?_)
      obtain ⟨rfl, rfl, rfl⟩ := hp
      refine lv_iload_n hx hb dX12_savedAfter_55 rfl (lv_at hl 1 rfl) ?_
      refine lv_iand hx hb dX12_savedAfter_56 ?_
      refine lv_if_eq (tgt := 62) hx hb dX12_savedAfter_57 (by decide) (fun c_5 => ?_) (fun c_5 => ?_)
      · rw [if_pos c_5] at h
        refine lv_iload_n hx hb dX12_savedAfter_62 rfl (lv_at hl 2 rfl) ?_
        refine lv_sipush (v := 300) hx hb dX12_savedAfter_63 (by decide) ?_
        refine lv_icmp_ge (tgt := 77) hx hb dX12_savedAfter_66 (by decide) (fun c_6 => ?_) (fun c_6 => ?_)
        · rw [if_pos c_6] at h
          refine lv_iinc (v := x3 + 1) (lv' := [(3, .int (x3 + 1)), (0, .ref (E.2.2 + 199)), (1, .int x1)]) hx hb dX12_savedAfter_77 hl (k := 2) rfl rfl (by decide) rfl (fun ls hl => ?_)
          obtain ⟨v_7, e_7, h⟩ := nm_some h
          have hl : lv_has ls 4 [(3, .int v_7), (0, .ref (E.2.2 + 199)), (1, .int x1)] := by rw [e_7]; exact hl
          refine lv_goto (tgt := 24) hx hb dX12_savedAfter_80 (by decide) ?_
          exact hrec_24 σ_4 τ_4 x1 v_7 _ _ _ _ _ _ h hw (lv_sub hl [1, 2, 0] rfl)
        · rw [if_neg c_6] at h
          refine lv_aload_n hx hb dX12_savedAfter_69 rfl (lv_at hl 0 rfl) ?_
          refine lv_aload_n hx hb dX12_savedAfter_70 rfl (lv_at hl 0 rfl) ?_
          refine gx_getr (j := 207) S hK hw t_199 cl_13 11 (by decide) rfl mw_1425 rfl dX12_savedAfter_71 ?_
          obtain ⟨u_8, σ_8, τ_8, q_8, h⟩ := bd_some h
          refine gx_cVv (As := [.ref (E.2.2 + 207)]) (rest := []) S hK gx_ok hw (c_X12_minuteGoes l (E := E) N 207 t_207 σ_4 τ_4 q_8) cw_X12_349 t_199 cl_13 ⟨Nat.le_of_ble_eq_true rfl, Nat.le_of_ble_eq_true rfl⟩ rfl hl.1 rfl (Nat.le_of_ble_eq_true rfl) ⟨Nat.le_of_ble_eq_true rfl, Nat.le_of_ble_eq_true rfl⟩ dX12_savedAfter_74 (fun σ9 τ9 H locs hp hw => ?_)
          obtain ⟨rfl, rfl⟩ := hp
          refine lv_iinc (v := x3 + 1) (lv' := [(3, .int (x3 + 1)), (0, .ref (E.2.2 + 199)), (1, .int x1)]) hx hb dX12_savedAfter_77 hl (k := 2) rfl rfl (by decide) rfl (fun ls hl => ?_)
          obtain ⟨v_9, e_9, h⟩ := nm_some h
          have hl : lv_has ls 4 [(3, .int v_9), (0, .ref (E.2.2 + 199)), (1, .int x1)] := by rw [e_9]; exact hl
          refine lv_goto (tgt := 24) hx hb dX12_savedAfter_80 (by decide) ?_
          exact hrec_24 σ_8 τ_8 x1 v_9 _ _ _ _ _ _ h hw (lv_sub hl [1, 2, 0] rfl)
      · rw [if_neg c_5] at h
        refine lv_iconst (v := (-1)) hx hb dX12_savedAfter_60 (by decide) ?_
        obtain ⟨rfl, rfl, rfl⟩ := sm_inj h
        exact gx_ri (post := gq_p (-1) σ_4 τ_4) (v := (-1)) S hr hlk hw rfl dX12_savedAfter_61 ⟨rfl, rfl, rfl⟩
    · rw [if_pos c_3] at h
      refine lv_iload_n hx hb dX12_savedAfter_45 rfl (lv_at hl 2 rfl) ?_
      obtain ⟨rfl, rfl, rfl⟩ := sm_inj h
      exact gx_ri (post := gq_p x3 σ_2 τ_2) (v := x3) S hr hlk hw rfl dX12_savedAfter_46 ⟨rfl, rfl, rfl⟩
set_option maxHeartbeats 4000000 in
set_option maxRecDepth 100000 in
theorem h_X12_savedAfter_24 (l : Launch) (S : CallFix P9 m9 C9 cX12_savedAfter 4 s av.toArray gx_G RX12) (hr : meth.sig.returnType = (some .int)) (hlk : meth.locks = false) (hK : gx_K E s) (N : Nat) : ∀ (n : Nat) (σ : gI) (τ : gJ) (x1 : Int32) (x3 : Int32) (r : Int32) (σ1 : gI) (τ1 : gJ), H_X12_savedAfter_24 N n σ τ x1 x3 = some (r, σ1, τ1) → ∀ (H : Heap) (locs : List Loc) (ls : Array Slot), gx_W gx_tb gx_tb.length E s σ τ H locs → lv_has ls 4 [(0, .ref (E.2.2 + 199)), (1, .int x1), (3, .int x3)] → W P9 l e9 (gx_rm 6) s m9 av.toArray below meth C9 H locs 0 0 (gq_Qi below av s E r σ1 τ1) (F0 m9 24 ls []) := by
  intro n
  induction n with
  | zero => intro σ τ x1 x3 r σ1 τ1 h; cases h
  | succ n ih =>
    intro σ τ x1 x3 r σ1 τ1 h H locs ls hw hl
    exact k_X12_savedAfter_24 l S hr hlk hK N (H_X12_savedAfter_24 N n) (fun σ τ x1 x3 r σ1 τ1 H locs ls h hw hl => ih σ τ x1 x3 r σ1 τ1 h H locs ls hw hl) σ τ x1 x3 h hw hl
set_option maxHeartbeats 4000000 in
set_option maxRecDepth 100000 in
theorem b_X12_savedAfter_0 (l : Launch) (S : CallFix P9 m9 C9 cX12_savedAfter 4 s av.toArray gx_G RX12) (hr : meth.sig.returnType = (some .int)) (hlk : meth.locks = false) (hK : gx_K E s) (N : Nat) (σ : gI) (τ : gJ) (x1 : Int32) (x2 : Int32) {r : Int32} {σ1 : gI} {τ1 : gJ} (h : B_X12_savedAfter_0 N σ τ x1 x2 = some (r, σ1, τ1)) {H : Heap} {locs : List Loc} {ls : Array Slot} (hw : gx_W gx_tb gx_tb.length E s σ τ H locs) (hl : lv_has ls 4 [(0, .ref (E.2.2 + 199)), (1, .int x1), (2, .int x2)]) : W P9 l e9 (gx_rm 6) s m9 av.toArray below meth C9 H locs 0 0 (gq_Qi below av s E r σ1 τ1) (F0 m9 0 ls []) := by
  have hx := S.1
  have hb := S.2.1
  unfold B_X12_savedAfter_0 at h
  refine lv_aload_n hx hb dX12_savedAfter_0 rfl (lv_at hl 0 rfl) ?_
  refine gx_getr (j := 206) S hK hw t_199 cl_13 10 (by decide) rfl mw_1424 rfl dX12_savedAfter_1 ?_
  refine lv_aload_n hx hb dX12_savedAfter_4 rfl (lv_at hl 0 rfl) ?_
  refine gx_getr (j := 207) S hK hw t_199 cl_13 11 (by decide) rfl mw_1425 rfl dX12_savedAfter_5 ?_
  obtain ⟨u_1, σ_1, τ_1, q_1, h⟩ := bd_some h
  refine gx_cSv (As := [.ref (E.2.2 + 206), .ref (E.2.2 + 207)]) (rest := []) S hK gx_ok hw (c_X12_puts l (E := E) N σ τ q_1) cw_X12_374 ⟨Nat.le_of_ble_eq_true rfl, Nat.le_of_ble_eq_true rfl⟩ rfl hl.1 rfl (Nat.le_of_ble_eq_true rfl) ⟨Nat.le_of_ble_eq_true rfl, Nat.le_of_ble_eq_true rfl⟩ dX12_savedAfter_8 (fun σ9 τ9 H locs hp hw => ?_)
  obtain ⟨rfl, rfl⟩ := hp
  refine lv_aload_n hx hb dX12_savedAfter_11 rfl (lv_at hl 0 rfl) ?_
  refine gx_getr (j := 207) S hK hw t_199 cl_13 11 (by decide) rfl mw_1425 rfl dX12_savedAfter_12 ?_
  refine lv_bipush (v := 42) hx hb dX12_savedAfter_15 (by decide) ?_
  refine lv_dup2_11 hx hb dX12_savedAfter_17 rfl rfl ?_
  refine gx_iald S hK hw t_207 42 rfl (gx_in rfl (by decide) (by decide)) dX12_savedAfter_18 ?_
  refine lv_iload_n hx hb dX12_savedAfter_19 rfl (lv_at hl 2 rfl) ?_
  refine lv_ixor hx hb dX12_savedAfter_20 ?_
  refine gx_iast S hK gx_ok hw t_207 42 rfl (gx_in rfl (by decide) (by decide)) dX12_savedAfter_21 (fun H locs hw => ?_)
  obtain ⟨σ_2, e_2, h⟩ := nm_some h
  rw [← e_2] at hw
  refine lv_iconst (v := 0) hx hb dX12_savedAfter_22 (by decide) ?_
  refine lv_istore_n (lv' := [(3, .int 0), (0, .ref (E.2.2 + 199)), (1, .int x1), (2, .int x2)]) hx hb dX12_savedAfter_23 rfl hl (by decide) rfl (fun ls hl => ?_)
  exact h_X12_savedAfter_24 l S hr hlk hK N N σ_2 τ_1 x1 0 _ _ _ h _ _ _ hw (lv_sub hl [1, 2, 0] rfl)
set_option maxHeartbeats 4000000 in
set_option maxRecDepth 100000 in
theorem c_X12_savedAfter (l : Launch) {E : gE} (N : Nat) (σ : gI) (τ : gJ) (x1 : Int32) (x2 : Int32) {r : Int32} {σ1 : gI} {τ1 : gJ} (h : B_X12_savedAfter_0 N σ τ x1 x2 = some (r, σ1, τ1)) : gx_Mi l yX12_savedAfter cX12_savedAfter 4 (some .int) 6 gx_tb E σ τ [.ref (E.2.2 + 199), .int x1, .int x2] (gq_p r σ1 τ1) := by
  refine gx_bi (by decide +kernel) (Nat.le_of_ble_eq_true rfl) ?_
  intro P9 e9 s m9 below meth C9 S hr hlk hK hw ls hl
  have hl : lv_has ls 4 [(0, .ref (E.2.2 + 199)), (1, .int x1), (2, .int x2)] := hl
  exact b_X12_savedAfter_0 l S hr hlk hK N σ τ x1 x2 h hw hl
/-! X12_order -/
def B_X12_order_222 (N : Nat) (σ : gI) (τ : gJ) (x1 : Int32) (x2 : Int32) (x3 : Int32) (x4 : Int32) (x5 : Int32) (x6 : Int32) (x7 : Int32) : Option (Int32 × gI × gJ) := ck ((7 * x1) + 5) 45 fun j_1 => nm (up2 σ 206 j_1 x3) fun σ_2 => ck ((7 * x2) + 5) 45 fun j_3 => nm (up2 σ_2 206 j_3 x4) fun σ_4 => if 0 ≤ x5 then (nm (up2 σ_4 199 1 0) fun σ_6 => bd (B_X12_enters_0 N σ_6 τ x6.toInt64) fun _ σ_7 τ_7 => bd (B_X12_enters_0 N σ_7 τ_7 ((x5 - x6).toInt64)) fun _ σ_8 τ_8 => bd (B_X12_enters_0 N σ_8 τ_8 x7.toInt64) fun _ σ_9 τ_9 => some (x5, σ_9, τ_9)) else (some ((-2), σ_4, τ))
def C_X12_order_117 (N : Nat) (rec_94 : gI → gJ → Int32 → Int32 → Int32 → Int32 → Int32 → Int32 → Int32 → Int32 → Option (Int32 × gI × gJ)) (rec_117 : gI → gJ → Int32 → Int32 → Int32 → Int32 → Int32 → Int32 → Int32 → Int32 → Int32 → Option (Int32 × gI × gJ)) (σ : gI) (τ : gJ) (x1 : Int32) (x2 : Int32) (x3 : Int32) (x4 : Int32) (x5 : Int32) (x6 : Int32) (x7 : Int32) (x8 : Int32) (x9 : Int32) : Option (Int32 × gI × gJ) := if imin 9 x8 < x9 then (nm (x8 + 1) fun v_2 => rec_94 σ τ x1 x2 x3 x4 x5 x6 x7 v_2) else (ck ((7 * x1) + 5) 45 fun j_3 => nm (up2 σ 206 j_3 ((σ 206 43) + x9)) fun σ_4 => ck ((7 * x2) + 5) 45 fun j_5 => nm (up2 σ_4 206 j_5 (((σ_4 206 43) + x8) - x9)) fun σ_6 => bd (B_X12_savedAfter_0 N σ_6 τ ((1 <<< (x1 &&& 31)) ||| (1 <<< (x2 &&& 31))) 0) fun r_7 σ_7 τ_7 => if r_7 < 0 then (nm (x9 + 1) fun v_9 => rec_117 σ_7 τ_7 x1 x2 x3 x4 x5 x6 x7 x8 v_9) else (if x7 = 0 then (nm (x7 + 1) fun v_13 => nm (x9 + 1) fun v_14 => rec_117 σ_7 τ_7 x1 x2 x3 x4 x8 x9 v_13 x8 v_14) else (nm (x7 + 1) fun v_11 => nm (x9 + 1) fun v_12 => rec_117 σ_7 τ_7 x1 x2 x3 x4 x8 x6 v_11 x8 v_12)))
def H_X12_order_117 (N : Nat) (rec_94 : gI → gJ → Int32 → Int32 → Int32 → Int32 → Int32 → Int32 → Int32 → Int32 → Option (Int32 × gI × gJ)) : Nat → gI → gJ → Int32 → Int32 → Int32 → Int32 → Int32 → Int32 → Int32 → Int32 → Int32 → Option (Int32 × gI × gJ) := itn (fun rec_117 => C_X12_order_117 N rec_94 rec_117) (fun _ _ _ _ _ _ _ _ _ _ _ => none)
def C_X12_order_94 (N : Nat) (rec_94 : gI → gJ → Int32 → Int32 → Int32 → Int32 → Int32 → Int32 → Int32 → Int32 → Option (Int32 × gI × gJ)) (σ : gI) (τ : gJ) (x1 : Int32) (x2 : Int32) (x3 : Int32) (x4 : Int32) (x5 : Int32) (x6 : Int32) (x7 : Int32) (x8 : Int32) : Option (Int32 × gI × gJ) := if 18 < x8 then (B_X12_order_222 N σ τ x1 x2 x3 x4 x5 x6 x7) else (if 0 ≤ x5 then (B_X12_order_222 N σ τ x1 x2 x3 x4 x5 x6 x7) else (nm (imax 0 (x8 - 9)) fun v_3 => H_X12_order_117 N rec_94 N σ τ x1 x2 x3 x4 x5 x6 x7 x8 v_3))
def H_X12_order_94 (N : Nat) : Nat → gI → gJ → Int32 → Int32 → Int32 → Int32 → Int32 → Int32 → Int32 → Int32 → Option (Int32 × gI × gJ) := itn (fun rec_94 => C_X12_order_94 N rec_94) (fun _ _ _ _ _ _ _ _ _ _ => none)
def B_X12_order_0 (N : Nat) (σ : gI) (τ : gJ) (x1 : Int32) (x2 : Int32) : Option (Int32 × gI × gJ) := nm (up2 σ 199 0 0) fun σ_1 => bd (B_X12_isThing_0 N σ_1 τ x1) fun r_2 σ_2 τ_2 => if r_2 = 0 then (some ((-1), σ_2, τ_2)) else (bd (B_X12_isThing_0 N σ_2 τ_2 x2) fun r_4 σ_4 τ_4 => if r_4 = 0 then (some ((-1), σ_4, τ_4)) else (if x1 = x2 then (some ((-1), σ_4, τ_4)) else (ck ((7 * x1) + 4) 45 fun j_7 => if σ_4 206 j_7 = 0 then (ck ((7 * x2) + 4) 45 fun j_9 => if σ_4 206 j_9 = 0 then (ck ((7 * x1) + 5) 45 fun j_11 => nm (σ_4 206 j_11) fun v_12 => ck ((7 * x2) + 5) 45 fun j_13 => nm (σ_4 206 j_13) fun v_14 => H_X12_order_94 N N σ_4 τ_4 x1 x2 v_12 v_14 (-2) 0 0 0) else (some ((-1), σ_4, τ_4))) else (some ((-1), σ_4, τ_4)))))
set_option maxHeartbeats 4000000 in
set_option maxRecDepth 100000 in
theorem b_X12_order_222 (l : Launch) (S : CallFix P9 m9 C9 cX12_order 10 s av.toArray gx_G RX12) (hr : meth.sig.returnType = (some .int)) (hlk : meth.locks = false) (hK : gx_K E s) (N : Nat) (σ : gI) (τ : gJ) (x1 : Int32) (x2 : Int32) (x3 : Int32) (x4 : Int32) (x5 : Int32) (x6 : Int32) (x7 : Int32) {r : Int32} {σ1 : gI} {τ1 : gJ} (h : B_X12_order_222 N σ τ x1 x2 x3 x4 x5 x6 x7 = some (r, σ1, τ1)) {H : Heap} {locs : List Loc} {ls : Array Slot} (hw : gx_W gx_tb gx_tb.length E s σ τ H locs) (hl : lv_has ls 10 [(0, .ref (E.2.2 + 199)), (1, .int x1), (2, .int x2), (3, .int x3), (4, .int x4), (5, .int x5), (6, .int x6), (7, .int x7)]) : W P9 l e9 (gx_rm 7) s m9 av.toArray below meth C9 H locs 0 0 (gq_Qi below av s E r σ1 τ1) (F0 m9 222 ls []) := by
  have hx := S.1
  have hb := S.2.1
  unfold B_X12_order_222 at h
  refine lv_aload_n hx hb dX12_order_222 rfl (lv_at hl 0 rfl) ?_
  refine gx_getr (j := 206) S hK hw t_199 cl_13 10 (by decide) rfl mw_1424 rfl dX12_order_223 ?_
  refine lv_bipush (v := 7) hx hb dX12_order_226 (by decide) ?_
  refine lv_iload_n hx hb dX12_order_228 rfl (lv_at hl 1 rfl) ?_
  refine lv_imul hx hb dX12_order_229 ?_
  refine lv_iconst (v := 5) hx hb dX12_order_230 (by decide) ?_
  refine lv_iadd hx hb dX12_order_231 ?_
  refine lv_iload_n hx hb dX12_order_232 rfl (lv_at hl 3 rfl) ?_
  obtain ⟨j_1, hj_1, hi_1, h⟩ := ck_some h
  refine gx_iast S hK gx_ok hw t_206 j_1 hj_1 hi_1 dX12_order_233 (fun H locs hw => ?_)
  obtain ⟨σ_2, e_2, h⟩ := nm_some h
  rw [← e_2] at hw
  refine lv_aload_n hx hb dX12_order_234 rfl (lv_at hl 0 rfl) ?_
  refine gx_getr (j := 206) S hK hw t_199 cl_13 10 (by decide) rfl mw_1424 rfl dX12_order_235 ?_
  refine lv_bipush (v := 7) hx hb dX12_order_238 (by decide) ?_
  refine lv_iload_n hx hb dX12_order_240 rfl (lv_at hl 2 rfl) ?_
  refine lv_imul hx hb dX12_order_241 ?_
  refine lv_iconst (v := 5) hx hb dX12_order_242 (by decide) ?_
  refine lv_iadd hx hb dX12_order_243 ?_
  refine lv_iload hx hb dX12_order_244 (lv_at hl 4 rfl) ?_
  obtain ⟨j_3, hj_3, hi_3, h⟩ := ck_some h
  refine gx_iast S hK gx_ok hw t_206 j_3 hj_3 hi_3 dX12_order_246 (fun H locs hw => ?_)
  obtain ⟨σ_4, e_4, h⟩ := nm_some h
  rw [← e_4] at hw
  refine lv_iload hx hb dX12_order_247 (lv_at hl 5 rfl) ?_
  refine lv_if_ge (tgt := 255) hx hb dX12_order_249 (by decide) (fun c_5 => ?_) (fun c_5 => ?_)
  · rw [if_pos c_5] at h
    refine lv_aload_n hx hb dX12_order_255 rfl (lv_at hl 0 rfl) ?_
    refine lv_iconst (v := 0) hx hb dX12_order_256 (by decide) ?_
    refine gx_put S hK gx_ok hw t_199 cl_13 1 (by decide) rfl mw_1415 rfl rfl (ty := .int) (v := 0) (by decide +kernel) rfl rfl dX12_order_257 (fun H locs hw => ?_)
    obtain ⟨σ_6, e_6, h⟩ := nm_some h
    rw [← e_6] at hw
    refine lv_aload_n hx hb dX12_order_260 rfl (lv_at hl 0 rfl) ?_
    refine lv_iload hx hb dX12_order_261 (lv_at hl 6 rfl) ?_
    refine lv_i2l (v := x6.toInt64) hx hb dX12_order_263 rfl ?_
    obtain ⟨u_7, σ_7, τ_7, q_7, h⟩ := bd_some h
    refine gx_cVv (As := [.long x6.toInt64]) (rest := []) S hK gx_ok hw (c_X12_enters l (E := E) N σ_6 τ x6.toInt64 q_7) cw_X12_122 t_199 cl_13 ⟨Nat.le_of_ble_eq_true rfl, Nat.le_of_ble_eq_true rfl⟩ rfl hl.1 rfl (Nat.le_of_ble_eq_true rfl) ⟨Nat.le_of_ble_eq_true rfl, Nat.le_of_ble_eq_true rfl⟩ dX12_order_264 (fun σ9 τ9 H locs hp hw => ?_)
    obtain ⟨rfl, rfl⟩ := hp
    refine lv_aload_n hx hb dX12_order_267 rfl (lv_at hl 0 rfl) ?_
    refine lv_iload hx hb dX12_order_268 (lv_at hl 5 rfl) ?_
    refine lv_iload hx hb dX12_order_270 (lv_at hl 6 rfl) ?_
    refine lv_isub hx hb dX12_order_272 ?_
    refine lv_i2l (v := (x5 - x6).toInt64) hx hb dX12_order_273 rfl ?_
    obtain ⟨u_8, σ_8, τ_8, q_8, h⟩ := bd_some h
    refine gx_cVv (As := [.long ((x5 - x6).toInt64)]) (rest := []) S hK gx_ok hw (c_X12_enters l (E := E) N σ_7 τ_7 ((x5 - x6).toInt64) q_8) cw_X12_122 t_199 cl_13 ⟨Nat.le_of_ble_eq_true rfl, Nat.le_of_ble_eq_true rfl⟩ rfl hl.1 rfl (Nat.le_of_ble_eq_true rfl) ⟨Nat.le_of_ble_eq_true rfl, Nat.le_of_ble_eq_true rfl⟩ dX12_order_274 (fun σ9 τ9 H locs hp hw => ?_)
    obtain ⟨rfl, rfl⟩ := hp
    refine lv_aload_n hx hb dX12_order_277 rfl (lv_at hl 0 rfl) ?_
    refine lv_iload hx hb dX12_order_278 (lv_at hl 7 rfl) ?_
    refine lv_i2l (v := x7.toInt64) hx hb dX12_order_280 rfl ?_
    obtain ⟨u_9, σ_9, τ_9, q_9, h⟩ := bd_some h
    refine gx_cVv (As := [.long x7.toInt64]) (rest := []) S hK gx_ok hw (c_X12_enters l (E := E) N σ_8 τ_8 x7.toInt64 q_9) cw_X12_122 t_199 cl_13 ⟨Nat.le_of_ble_eq_true rfl, Nat.le_of_ble_eq_true rfl⟩ rfl hl.1 rfl (Nat.le_of_ble_eq_true rfl) ⟨Nat.le_of_ble_eq_true rfl, Nat.le_of_ble_eq_true rfl⟩ dX12_order_281 (fun σ9 τ9 H locs hp hw => ?_)
    obtain ⟨rfl, rfl⟩ := hp
    refine lv_iload hx hb dX12_order_284 (lv_at hl 5 rfl) ?_
    obtain ⟨rfl, rfl, rfl⟩ := sm_inj h
    exact gx_ri (post := gq_p x5 σ_9 τ_9) (v := x5) S hr hlk hw rfl dX12_order_286 ⟨rfl, rfl, rfl⟩
  · rw [if_neg c_5] at h
    refine lv_bipush (v := (-2)) hx hb dX12_order_252 (by decide) ?_
    obtain ⟨rfl, rfl, rfl⟩ := sm_inj h
    exact gx_ri (post := gq_p (-2) σ_4 τ) (v := (-2)) S hr hlk hw rfl dX12_order_254 ⟨rfl, rfl, rfl⟩
set_option maxHeartbeats 4000000 in
set_option maxRecDepth 100000 in
theorem k_X12_order_117 (l : Launch) (S : CallFix P9 m9 C9 cX12_order 10 s av.toArray gx_G RX12) (hr : meth.sig.returnType = (some .int)) (hlk : meth.locks = false) (hK : gx_K E s) (N : Nat) (rec_94 : gI → gJ → Int32 → Int32 → Int32 → Int32 → Int32 → Int32 → Int32 → Int32 → Option (Int32 × gI × gJ)) (hrec_94 : ∀ (σ : gI) (τ : gJ) (x1 : Int32) (x2 : Int32) (x3 : Int32) (x4 : Int32) (x5 : Int32) (x6 : Int32) (x7 : Int32) (x8 : Int32) (r : Int32) (σ1 : gI) (τ1 : gJ) (H : Heap) (locs : List Loc) (ls : Array Slot), rec_94 σ τ x1 x2 x3 x4 x5 x6 x7 x8 = some (r, σ1, τ1) → gx_W gx_tb gx_tb.length E s σ τ H locs → lv_has ls 10 [(0, .ref (E.2.2 + 199)), (1, .int x1), (2, .int x2), (3, .int x3), (4, .int x4), (5, .int x5), (6, .int x6), (7, .int x7), (8, .int x8)] → W P9 l e9 (gx_rm 7) s m9 av.toArray below meth C9 H locs 0 0 (gq_Qi below av s E r σ1 τ1) (F0 m9 94 ls [])) (rec_117 : gI → gJ → Int32 → Int32 → Int32 → Int32 → Int32 → Int32 → Int32 → Int32 → Int32 → Option (Int32 × gI × gJ)) (hrec_117 : ∀ (σ : gI) (τ : gJ) (x1 : Int32) (x2 : Int32) (x3 : Int32) (x4 : Int32) (x5 : Int32) (x6 : Int32) (x7 : Int32) (x8 : Int32) (x9 : Int32) (r : Int32) (σ1 : gI) (τ1 : gJ) (H : Heap) (locs : List Loc) (ls : Array Slot), rec_117 σ τ x1 x2 x3 x4 x5 x6 x7 x8 x9 = some (r, σ1, τ1) → gx_W gx_tb gx_tb.length E s σ τ H locs → lv_has ls 10 [(0, .ref (E.2.2 + 199)), (1, .int x1), (2, .int x2), (3, .int x3), (4, .int x4), (5, .int x5), (6, .int x6), (7, .int x7), (8, .int x8), (9, .int x9)] → W P9 l e9 (gx_rm 7) s m9 av.toArray below meth C9 H locs 0 0 (gq_Qi below av s E r σ1 τ1) (F0 m9 117 ls [])) (σ : gI) (τ : gJ) (x1 : Int32) (x2 : Int32) (x3 : Int32) (x4 : Int32) (x5 : Int32) (x6 : Int32) (x7 : Int32) (x8 : Int32) (x9 : Int32) {r : Int32} {σ1 : gI} {τ1 : gJ} (h : C_X12_order_117 N rec_94 rec_117 σ τ x1 x2 x3 x4 x5 x6 x7 x8 x9 = some (r, σ1, τ1)) {H : Heap} {locs : List Loc} {ls : Array Slot} (hw : gx_W gx_tb gx_tb.length E s σ τ H locs) (hl : lv_has ls 10 [(0, .ref (E.2.2 + 199)), (1, .int x1), (2, .int x2), (3, .int x3), (4, .int x4), (5, .int x5), (6, .int x6), (7, .int x7), (8, .int x8), (9, .int x9)]) : W P9 l e9 (gx_rm 7) s m9 av.toArray below meth C9 H locs 0 0 (gq_Qi below av s E r σ1 τ1) (F0 m9 117 ls []) := by
  have hx := S.1
  have hb := S.2.1
  unfold C_X12_order_117 at h
  refine lv_iload hx hb dX12_order_117 (lv_at hl 9 rfl) ?_
  refine lv_bipush (v := 9) hx hb dX12_order_119 (by decide) ?_
  refine lv_iload hx hb dX12_order_121 (lv_at hl 8 rfl) ?_
  refine gx_min (w := imin 9 x8) S hl.1 mw_1614 mw_529 mw_102 mw_530 ⟨Nat.le_of_ble_eq_true rfl, Nat.le_of_ble_eq_true rfl⟩ ⟨Nat.le_of_ble_eq_true rfl, Nat.le_of_ble_eq_true rfl⟩ dX12_order_123 rfl ?_
  refine lv_icmp_gt (tgt := 216) hx hb dX12_order_126 (by decide) (fun c_1 => ?_) (fun c_1 => ?_)
  · rw [if_pos c_1] at h
    refine lv_iinc (v := x8 + 1) (lv' := [(8, .int (x8 + 1)), (0, .ref (E.2.2 + 199)), (1, .int x1), (2, .int x2), (3, .int x3), (4, .int x4), (5, .int x5), (6, .int x6), (7, .int x7), (9, .int x9)]) hx hb dX12_order_216 hl (k := 8) rfl rfl (by decide) rfl (fun ls hl => ?_)
    obtain ⟨v_2, e_2, h⟩ := nm_some h
    have hl : lv_has ls 10 [(8, .int v_2), (0, .ref (E.2.2 + 199)), (1, .int x1), (2, .int x2), (3, .int x3), (4, .int x4), (5, .int x5), (6, .int x6), (7, .int x7), (9, .int x9)] := by rw [e_2]; exact hl
    refine lv_goto (tgt := 94) hx hb dX12_order_219 (by decide) ?_
    exact hrec_94 σ τ x1 x2 x3 x4 x5 x6 x7 v_2 _ _ _ _ _ _ h hw (lv_sub hl [1, 2, 3, 4, 5, 6, 7, 8, 0] rfl)
  · rw [if_neg c_1] at h
    refine lv_aload_n hx hb dX12_order_129 rfl (lv_at hl 0 rfl) ?_
    refine gx_getr (j := 206) S hK hw t_199 cl_13 10 (by decide) rfl mw_1424 rfl dX12_order_130 ?_
    refine lv_bipush (v := 7) hx hb dX12_order_133 (by decide) ?_
    refine lv_iload_n hx hb dX12_order_135 rfl (lv_at hl 1 rfl) ?_
    refine lv_imul hx hb dX12_order_136 ?_
    refine lv_iconst (v := 5) hx hb dX12_order_137 (by decide) ?_
    refine lv_iadd hx hb dX12_order_138 ?_
    refine lv_aload_n hx hb dX12_order_139 rfl (lv_at hl 0 rfl) ?_
    refine gx_getr (j := 206) S hK hw t_199 cl_13 10 (by decide) rfl mw_1424 rfl dX12_order_140 ?_
    refine lv_bipush (v := 43) hx hb dX12_order_143 (by decide) ?_
    refine gx_iald S hK hw t_206 43 rfl (gx_in rfl (by decide) (by decide)) dX12_order_145 ?_
    refine lv_iload hx hb dX12_order_146 (lv_at hl 9 rfl) ?_
    refine lv_iadd hx hb dX12_order_148 ?_
    obtain ⟨j_3, hj_3, hi_3, h⟩ := ck_some h
    refine gx_iast S hK gx_ok hw t_206 j_3 hj_3 hi_3 dX12_order_149 (fun H locs hw => ?_)
    obtain ⟨σ_4, e_4, h⟩ := nm_some h
    rw [← e_4] at hw
    refine lv_aload_n hx hb dX12_order_150 rfl (lv_at hl 0 rfl) ?_
    refine gx_getr (j := 206) S hK hw t_199 cl_13 10 (by decide) rfl mw_1424 rfl dX12_order_151 ?_
    refine lv_bipush (v := 7) hx hb dX12_order_154 (by decide) ?_
    refine lv_iload_n hx hb dX12_order_156 rfl (lv_at hl 2 rfl) ?_
    refine lv_imul hx hb dX12_order_157 ?_
    refine lv_iconst (v := 5) hx hb dX12_order_158 (by decide) ?_
    refine lv_iadd hx hb dX12_order_159 ?_
    refine lv_aload_n hx hb dX12_order_160 rfl (lv_at hl 0 rfl) ?_
    refine gx_getr (j := 206) S hK hw t_199 cl_13 10 (by decide) rfl mw_1424 rfl dX12_order_161 ?_
    refine lv_bipush (v := 43) hx hb dX12_order_164 (by decide) ?_
    refine gx_iald S hK hw t_206 43 rfl (gx_in rfl (by decide) (by decide)) dX12_order_166 ?_
    refine lv_iload hx hb dX12_order_167 (lv_at hl 8 rfl) ?_
    refine lv_iadd hx hb dX12_order_169 ?_
    refine lv_iload hx hb dX12_order_170 (lv_at hl 9 rfl) ?_
    refine lv_isub hx hb dX12_order_172 ?_
    obtain ⟨j_5, hj_5, hi_5, h⟩ := ck_some h
    refine gx_iast S hK gx_ok hw t_206 j_5 hj_5 hi_5 dX12_order_173 (fun H locs hw => ?_)
    obtain ⟨σ_6, e_6, h⟩ := nm_some h
    rw [← e_6] at hw
    refine lv_aload_n hx hb dX12_order_174 rfl (lv_at hl 0 rfl) ?_
    refine lv_iconst (v := 1) hx hb dX12_order_175 (by decide) ?_
    refine lv_iload_n hx hb dX12_order_176 rfl (lv_at hl 1 rfl) ?_
    refine lv_ishl hx hb dX12_order_177 ?_
    refine lv_iconst (v := 1) hx hb dX12_order_178 (by decide) ?_
    refine lv_iload_n hx hb dX12_order_179 rfl (lv_at hl 2 rfl) ?_
    refine lv_ishl hx hb dX12_order_180 ?_
    refine lv_ior hx hb dX12_order_181 ?_
    refine lv_iconst (v := 0) hx hb dX12_order_182 (by decide) ?_
    obtain ⟨r_7, σ_7, τ_7, q_7, h⟩ := bd_some h
    refine gx_cVi (As := [.int ((1 <<< (x1 &&& 31)) ||| (1 <<< (x2 &&& 31))), .int 0]) (rest := []) S hK gx_ok hw (c_X12_savedAfter l (E := E) N σ_6 τ ((1 <<< (x1 &&& 31)) ||| (1 <<< (x2 &&& 31))) 0 q_7) cw_X12_419 t_199 cl_13 ⟨Nat.le_of_ble_eq_true rfl, Nat.le_of_ble_eq_true rfl⟩ rfl hl.1 rfl (Nat.le_of_ble_eq_true rfl) ⟨Nat.le_of_ble_eq_true rfl, Nat.le_of_ble_eq_true rfl⟩ dX12_order_183 (fun r9 σ9 τ9 H locs hp hw => ?_)
    obtain ⟨rfl, rfl, rfl⟩ := hp
    refine lv_if_lt (tgt := 210) hx hb dX12_order_186 (by decide) (fun c_8 => ?_) (fun c_8 => ?_)
    · rw [if_pos c_8] at h
      refine lv_iinc (v := x9 + 1) (lv' := [(9, .int (x9 + 1)), (0, .ref (E.2.2 + 199)), (1, .int x1), (2, .int x2), (3, .int x3), (4, .int x4), (5, .int x5), (6, .int x6), (7, .int x7), (8, .int x8)]) hx hb dX12_order_210 hl (k := 9) rfl rfl (by decide) rfl (fun ls hl => ?_)
      obtain ⟨v_9, e_9, h⟩ := nm_some h
      have hl : lv_has ls 10 [(9, .int v_9), (0, .ref (E.2.2 + 199)), (1, .int x1), (2, .int x2), (3, .int x3), (4, .int x4), (5, .int x5), (6, .int x6), (7, .int x7), (8, .int x8)] := by rw [e_9]; exact hl
      refine lv_goto (tgt := 117) hx hb dX12_order_213 (by decide) ?_
      exact hrec_117 σ_7 τ_7 x1 x2 x3 x4 x5 x6 x7 x8 v_9 _ _ _ _ _ _ h hw (lv_sub hl [1, 2, 3, 4, 5, 6, 7, 8, 9, 0] rfl)
    · rw [if_neg c_8] at h
      refine lv_iload hx hb dX12_order_189 (lv_at hl 7 rfl) ?_
      refine lv_if_ne (tgt := 199) hx hb dX12_order_191 (by decide) (fun c_10 => ?_) (fun c_10 => ?_)
      · rw [if_neg c_10] at h
        refine lv_iload hx hb dX12_order_199 (lv_at hl 6 rfl) ?_
        refine lv_istore (lv' := [(6, .int x6), (0, .ref (E.2.2 + 199)), (1, .int x1), (2, .int x2), (3, .int x3), (4, .int x4), (5, .int x5), (7, .int x7), (8, .int x8), (9, .int x9)]) hx hb dX12_order_201 hl (by decide) rfl (fun ls hl => ?_)
        refine lv_iload hx hb dX12_order_203 (lv_at hl 8 rfl) ?_
        refine lv_istore (lv' := [(5, .int x8), (6, .int x6), (0, .ref (E.2.2 + 199)), (1, .int x1), (2, .int x2), (3, .int x3), (4, .int x4), (7, .int x7), (8, .int x8), (9, .int x9)]) hx hb dX12_order_205 hl (by decide) rfl (fun ls hl => ?_)
        refine lv_iinc (v := x7 + 1) (lv' := [(7, .int (x7 + 1)), (5, .int x8), (6, .int x6), (0, .ref (E.2.2 + 199)), (1, .int x1), (2, .int x2), (3, .int x3), (4, .int x4), (8, .int x8), (9, .int x9)]) hx hb dX12_order_207 hl (k := 7) rfl rfl (by decide) rfl (fun ls hl => ?_)
        obtain ⟨v_11, e_11, h⟩ := nm_some h
        have hl : lv_has ls 10 [(7, .int v_11), (5, .int x8), (6, .int x6), (0, .ref (E.2.2 + 199)), (1, .int x1), (2, .int x2), (3, .int x3), (4, .int x4), (8, .int x8), (9, .int x9)] := by rw [e_11]; exact hl
        refine lv_iinc (v := x9 + 1) (lv' := [(9, .int (x9 + 1)), (7, .int v_11), (5, .int x8), (6, .int x6), (0, .ref (E.2.2 + 199)), (1, .int x1), (2, .int x2), (3, .int x3), (4, .int x4), (8, .int x8)]) hx hb dX12_order_210 hl (k := 9) rfl rfl (by decide) rfl (fun ls hl => ?_)
        obtain ⟨v_12, e_12, h⟩ := nm_some h
        have hl : lv_has ls 10 [(9, .int v_12), (7, .int v_11), (5, .int x8), (6, .int x6), (0, .ref (E.2.2 + 199)), (1, .int x1), (2, .int x2), (3, .int x3), (4, .int x4), (8, .int x8)] := by rw [e_12]; exact hl
        refine lv_goto (tgt := 117) hx hb dX12_order_213 (by decide) ?_
        exact hrec_117 σ_7 τ_7 x1 x2 x3 x4 x8 x6 v_11 x8 v_12 _ _ _ _ _ _ h hw (lv_sub hl [4, 5, 6, 7, 8, 2, 3, 1, 9, 0] rfl)
      · rw [if_pos c_10] at h
        refine lv_iload hx hb dX12_order_194 (lv_at hl 9 rfl) ?_
        refine lv_goto (tgt := 201) hx hb dX12_order_196 (by decide) ?_
        refine lv_istore (lv' := [(6, .int x9), (0, .ref (E.2.2 + 199)), (1, .int x1), (2, .int x2), (3, .int x3), (4, .int x4), (5, .int x5), (7, .int x7), (8, .int x8), (9, .int x9)]) hx hb dX12_order_201 hl (by decide) rfl (fun ls hl => ?_)
        refine lv_iload hx hb dX12_order_203 (lv_at hl 8 rfl) ?_
        refine lv_istore (lv' := [(5, .int x8), (6, .int x9), (0, .ref (E.2.2 + 199)), (1, .int x1), (2, .int x2), (3, .int x3), (4, .int x4), (7, .int x7), (8, .int x8), (9, .int x9)]) hx hb dX12_order_205 hl (by decide) rfl (fun ls hl => ?_)
        refine lv_iinc (v := x7 + 1) (lv' := [(7, .int (x7 + 1)), (5, .int x8), (6, .int x9), (0, .ref (E.2.2 + 199)), (1, .int x1), (2, .int x2), (3, .int x3), (4, .int x4), (8, .int x8), (9, .int x9)]) hx hb dX12_order_207 hl (k := 7) rfl rfl (by decide) rfl (fun ls hl => ?_)
        obtain ⟨v_13, e_13, h⟩ := nm_some h
        have hl : lv_has ls 10 [(7, .int v_13), (5, .int x8), (6, .int x9), (0, .ref (E.2.2 + 199)), (1, .int x1), (2, .int x2), (3, .int x3), (4, .int x4), (8, .int x8), (9, .int x9)] := by rw [e_13]; exact hl
        refine lv_iinc (v := x9 + 1) (lv' := [(9, .int (x9 + 1)), (7, .int v_13), (5, .int x8), (6, .int x9), (0, .ref (E.2.2 + 199)), (1, .int x1), (2, .int x2), (3, .int x3), (4, .int x4), (8, .int x8)]) hx hb dX12_order_210 hl (k := 9) rfl rfl (by decide) rfl (fun ls hl => ?_)
        obtain ⟨v_14, e_14, h⟩ := nm_some h
        have hl : lv_has ls 10 [(9, .int v_14), (7, .int v_13), (5, .int x8), (6, .int x9), (0, .ref (E.2.2 + 199)), (1, .int x1), (2, .int x2), (3, .int x3), (4, .int x4), (8, .int x8)] := by rw [e_14]; exact hl
        refine lv_goto (tgt := 117) hx hb dX12_order_213 (by decide) ?_
        exact hrec_117 σ_7 τ_7 x1 x2 x3 x4 x8 x9 v_13 x8 v_14 _ _ _ _ _ _ h hw (lv_sub hl [4, 5, 6, 7, 8, 2, 3, 1, 9, 0] rfl)
set_option maxHeartbeats 4000000 in
set_option maxRecDepth 100000 in
theorem h_X12_order_117 (l : Launch) (S : CallFix P9 m9 C9 cX12_order 10 s av.toArray gx_G RX12) (hr : meth.sig.returnType = (some .int)) (hlk : meth.locks = false) (hK : gx_K E s) (N : Nat) (rec_94 : gI → gJ → Int32 → Int32 → Int32 → Int32 → Int32 → Int32 → Int32 → Int32 → Option (Int32 × gI × gJ)) (hrec_94 : ∀ (σ : gI) (τ : gJ) (x1 : Int32) (x2 : Int32) (x3 : Int32) (x4 : Int32) (x5 : Int32) (x6 : Int32) (x7 : Int32) (x8 : Int32) (r : Int32) (σ1 : gI) (τ1 : gJ) (H : Heap) (locs : List Loc) (ls : Array Slot), rec_94 σ τ x1 x2 x3 x4 x5 x6 x7 x8 = some (r, σ1, τ1) → gx_W gx_tb gx_tb.length E s σ τ H locs → lv_has ls 10 [(0, .ref (E.2.2 + 199)), (1, .int x1), (2, .int x2), (3, .int x3), (4, .int x4), (5, .int x5), (6, .int x6), (7, .int x7), (8, .int x8)] → W P9 l e9 (gx_rm 7) s m9 av.toArray below meth C9 H locs 0 0 (gq_Qi below av s E r σ1 τ1) (F0 m9 94 ls [])) : ∀ (n : Nat) (σ : gI) (τ : gJ) (x1 : Int32) (x2 : Int32) (x3 : Int32) (x4 : Int32) (x5 : Int32) (x6 : Int32) (x7 : Int32) (x8 : Int32) (x9 : Int32) (r : Int32) (σ1 : gI) (τ1 : gJ), H_X12_order_117 N rec_94 n σ τ x1 x2 x3 x4 x5 x6 x7 x8 x9 = some (r, σ1, τ1) → ∀ (H : Heap) (locs : List Loc) (ls : Array Slot), gx_W gx_tb gx_tb.length E s σ τ H locs → lv_has ls 10 [(0, .ref (E.2.2 + 199)), (1, .int x1), (2, .int x2), (3, .int x3), (4, .int x4), (5, .int x5), (6, .int x6), (7, .int x7), (8, .int x8), (9, .int x9)] → W P9 l e9 (gx_rm 7) s m9 av.toArray below meth C9 H locs 0 0 (gq_Qi below av s E r σ1 τ1) (F0 m9 117 ls []) := by
  intro n
  induction n with
  | zero => intro σ τ x1 x2 x3 x4 x5 x6 x7 x8 x9 r σ1 τ1 h; cases h
  | succ n ih =>
    intro σ τ x1 x2 x3 x4 x5 x6 x7 x8 x9 r σ1 τ1 h H locs ls hw hl
    exact k_X12_order_117 l S hr hlk hK N rec_94 hrec_94 (H_X12_order_117 N rec_94 n) (fun σ τ x1 x2 x3 x4 x5 x6 x7 x8 x9 r σ1 τ1 H locs ls h hw hl => ih σ τ x1 x2 x3 x4 x5 x6 x7 x8 x9 r σ1 τ1 h H locs ls hw hl) σ τ x1 x2 x3 x4 x5 x6 x7 x8 x9 h hw hl
set_option maxHeartbeats 4000000 in
set_option maxRecDepth 100000 in
theorem k_X12_order_94 (l : Launch) (S : CallFix P9 m9 C9 cX12_order 10 s av.toArray gx_G RX12) (hr : meth.sig.returnType = (some .int)) (hlk : meth.locks = false) (hK : gx_K E s) (N : Nat) (rec_94 : gI → gJ → Int32 → Int32 → Int32 → Int32 → Int32 → Int32 → Int32 → Int32 → Option (Int32 × gI × gJ)) (hrec_94 : ∀ (σ : gI) (τ : gJ) (x1 : Int32) (x2 : Int32) (x3 : Int32) (x4 : Int32) (x5 : Int32) (x6 : Int32) (x7 : Int32) (x8 : Int32) (r : Int32) (σ1 : gI) (τ1 : gJ) (H : Heap) (locs : List Loc) (ls : Array Slot), rec_94 σ τ x1 x2 x3 x4 x5 x6 x7 x8 = some (r, σ1, τ1) → gx_W gx_tb gx_tb.length E s σ τ H locs → lv_has ls 10 [(0, .ref (E.2.2 + 199)), (1, .int x1), (2, .int x2), (3, .int x3), (4, .int x4), (5, .int x5), (6, .int x6), (7, .int x7), (8, .int x8)] → W P9 l e9 (gx_rm 7) s m9 av.toArray below meth C9 H locs 0 0 (gq_Qi below av s E r σ1 τ1) (F0 m9 94 ls [])) (σ : gI) (τ : gJ) (x1 : Int32) (x2 : Int32) (x3 : Int32) (x4 : Int32) (x5 : Int32) (x6 : Int32) (x7 : Int32) (x8 : Int32) {r : Int32} {σ1 : gI} {τ1 : gJ} (h : C_X12_order_94 N rec_94 σ τ x1 x2 x3 x4 x5 x6 x7 x8 = some (r, σ1, τ1)) {H : Heap} {locs : List Loc} {ls : Array Slot} (hw : gx_W gx_tb gx_tb.length E s σ τ H locs) (hl : lv_has ls 10 [(0, .ref (E.2.2 + 199)), (1, .int x1), (2, .int x2), (3, .int x3), (4, .int x4), (5, .int x5), (6, .int x6), (7, .int x7), (8, .int x8)]) : W P9 l e9 (gx_rm 7) s m9 av.toArray below meth C9 H locs 0 0 (gq_Qi below av s E r σ1 τ1) (F0 m9 94 ls []) := by
  have hx := S.1
  have hb := S.2.1
  unfold C_X12_order_94 at h
  refine lv_iload hx hb dX12_order_94 (lv_at hl 8 rfl) ?_
  refine lv_bipush (v := 18) hx hb dX12_order_96 (by decide) ?_
  refine lv_icmp_gt (tgt := 222) hx hb dX12_order_98 (by decide) (fun c_1 => ?_) (fun c_1 => ?_)
  · rw [if_pos c_1] at h
    exact b_X12_order_222 l S hr hlk hK N σ τ x1 x2 x3 x4 x5 x6 x7 h hw (lv_sub hl [0, 1, 2, 3, 4, 5, 6, 7] rfl)
  · rw [if_neg c_1] at h
    refine lv_iload hx hb dX12_order_101 (lv_at hl 5 rfl) ?_
    refine lv_if_ge (tgt := 222) hx hb dX12_order_103 (by decide) (fun c_2 => ?_) (fun c_2 => ?_)
    · rw [if_pos c_2] at h
      exact b_X12_order_222 l S hr hlk hK N σ τ x1 x2 x3 x4 x5 x6 x7 h hw (lv_sub hl [0, 1, 2, 3, 4, 5, 6, 7] rfl)
    · rw [if_neg c_2] at h
      refine lv_iconst (v := 0) hx hb dX12_order_106 (by decide) ?_
      refine lv_iload hx hb dX12_order_107 (lv_at hl 8 rfl) ?_
      refine lv_bipush (v := 9) hx hb dX12_order_109 (by decide) ?_
      refine lv_isub hx hb dX12_order_111 ?_
      refine gx_max (w := imax 0 (x8 - 9)) S hl.1 mw_1803 mw_577 mw_102 mw_578 ⟨Nat.le_of_ble_eq_true rfl, Nat.le_of_ble_eq_true rfl⟩ ⟨Nat.le_of_ble_eq_true rfl, Nat.le_of_ble_eq_true rfl⟩ dX12_order_112 rfl ?_
      refine lv_istore (lv' := [(9, .int (imax 0 (x8 - 9))), (0, .ref (E.2.2 + 199)), (1, .int x1), (2, .int x2), (3, .int x3), (4, .int x4), (5, .int x5), (6, .int x6), (7, .int x7), (8, .int x8)]) hx hb dX12_order_115 hl (by decide) rfl (fun ls hl => ?_)
      obtain ⟨v_3, e_3, h⟩ := nm_some h
      have hl : lv_has ls 10 [(9, .int v_3), (0, .ref (E.2.2 + 199)), (1, .int x1), (2, .int x2), (3, .int x3), (4, .int x4), (5, .int x5), (6, .int x6), (7, .int x7), (8, .int x8)] := by rw [e_3]; exact hl
      exact h_X12_order_117 l S hr hlk hK N rec_94 hrec_94 N σ τ x1 x2 x3 x4 x5 x6 x7 x8 v_3 _ _ _ h _ _ _ hw (lv_sub hl [1, 2, 3, 4, 5, 6, 7, 8, 9, 0] rfl)
set_option maxHeartbeats 4000000 in
set_option maxRecDepth 100000 in
theorem h_X12_order_94 (l : Launch) (S : CallFix P9 m9 C9 cX12_order 10 s av.toArray gx_G RX12) (hr : meth.sig.returnType = (some .int)) (hlk : meth.locks = false) (hK : gx_K E s) (N : Nat) : ∀ (n : Nat) (σ : gI) (τ : gJ) (x1 : Int32) (x2 : Int32) (x3 : Int32) (x4 : Int32) (x5 : Int32) (x6 : Int32) (x7 : Int32) (x8 : Int32) (r : Int32) (σ1 : gI) (τ1 : gJ), H_X12_order_94 N n σ τ x1 x2 x3 x4 x5 x6 x7 x8 = some (r, σ1, τ1) → ∀ (H : Heap) (locs : List Loc) (ls : Array Slot), gx_W gx_tb gx_tb.length E s σ τ H locs → lv_has ls 10 [(0, .ref (E.2.2 + 199)), (1, .int x1), (2, .int x2), (3, .int x3), (4, .int x4), (5, .int x5), (6, .int x6), (7, .int x7), (8, .int x8)] → W P9 l e9 (gx_rm 7) s m9 av.toArray below meth C9 H locs 0 0 (gq_Qi below av s E r σ1 τ1) (F0 m9 94 ls []) := by
  intro n
  induction n with
  | zero => intro σ τ x1 x2 x3 x4 x5 x6 x7 x8 r σ1 τ1 h; cases h
  | succ n ih =>
    intro σ τ x1 x2 x3 x4 x5 x6 x7 x8 r σ1 τ1 h H locs ls hw hl
    exact k_X12_order_94 l S hr hlk hK N (H_X12_order_94 N n) (fun σ τ x1 x2 x3 x4 x5 x6 x7 x8 r σ1 τ1 H locs ls h hw hl => ih σ τ x1 x2 x3 x4 x5 x6 x7 x8 r σ1 τ1 h H locs ls hw hl) σ τ x1 x2 x3 x4 x5 x6 x7 x8 h hw hl
set_option maxHeartbeats 4000000 in
set_option maxRecDepth 100000 in
theorem b_X12_order_0 (l : Launch) (S : CallFix P9 m9 C9 cX12_order 10 s av.toArray gx_G RX12) (hr : meth.sig.returnType = (some .int)) (hlk : meth.locks = false) (hK : gx_K E s) (N : Nat) (σ : gI) (τ : gJ) (x1 : Int32) (x2 : Int32) {r : Int32} {σ1 : gI} {τ1 : gJ} (h : B_X12_order_0 N σ τ x1 x2 = some (r, σ1, τ1)) {H : Heap} {locs : List Loc} {ls : Array Slot} (hw : gx_W gx_tb gx_tb.length E s σ τ H locs) (hl : lv_has ls 10 [(0, .ref (E.2.2 + 199)), (1, .int x1), (2, .int x2)]) : W P9 l e9 (gx_rm 7) s m9 av.toArray below meth C9 H locs 0 0 (gq_Qi below av s E r σ1 τ1) (F0 m9 0 ls []) := by
  have hx := S.1
  have hb := S.2.1
  unfold B_X12_order_0 at h
  refine lv_aload_n hx hb dX12_order_0 rfl (lv_at hl 0 rfl) ?_
  refine lv_iconst (v := 0) hx hb dX12_order_1 (by decide) ?_
  refine gx_put S hK gx_ok hw t_199 cl_13 0 (by decide) rfl mw_1414 rfl rfl (ty := .int) (v := 0) (by decide +kernel) rfl rfl dX12_order_2 (fun H locs hw => ?_)
  obtain ⟨σ_1, e_1, h⟩ := nm_some h
  rw [← e_1] at hw
  refine lv_aload_n hx hb dX12_order_5 rfl (lv_at hl 0 rfl) ?_
  refine lv_iload_n hx hb dX12_order_6 rfl (lv_at hl 1 rfl) ?_
  obtain ⟨r_2, σ_2, τ_2, q_2, h⟩ := bd_some h
  refine gx_cVi (As := [.int x1]) (rest := []) S hK gx_ok hw (c_X12_isThing l (E := E) N σ_1 τ x1 q_2) cw_X12_309 t_199 cl_13 ⟨Nat.le_of_ble_eq_true rfl, Nat.le_of_ble_eq_true rfl⟩ rfl hl.1 rfl (Nat.le_of_ble_eq_true rfl) ⟨Nat.le_of_ble_eq_true rfl, Nat.le_of_ble_eq_true rfl⟩ dX12_order_7 (fun r9 σ9 τ9 H locs hp hw => ?_)
  obtain ⟨rfl, rfl, rfl⟩ := hp
  refine lv_if_eq (tgt := 54) hx hb dX12_order_10 (by decide) (fun c_3 => ?_) (fun c_3 => ?_)
  · rw [if_pos c_3] at h
    refine lv_iconst (v := (-1)) hx hb dX12_order_54 (by decide) ?_
    obtain ⟨rfl, rfl, rfl⟩ := sm_inj h
    exact gx_ri (post := gq_p (-1) σ_2 τ_2) (v := (-1)) S hr hlk hw rfl dX12_order_55 ⟨rfl, rfl, rfl⟩
  · rw [if_neg c_3] at h
    refine lv_aload_n hx hb dX12_order_13 rfl (lv_at hl 0 rfl) ?_
    refine lv_iload_n hx hb dX12_order_14 rfl (lv_at hl 2 rfl) ?_
    obtain ⟨r_4, σ_4, τ_4, q_4, h⟩ := bd_some h
    refine gx_cVi (As := [.int x2]) (rest := []) S hK gx_ok hw (c_X12_isThing l (E := E) N σ_2 τ_2 x2 q_4) cw_X12_309 t_199 cl_13 ⟨Nat.le_of_ble_eq_true rfl, Nat.le_of_ble_eq_true rfl⟩ rfl hl.1 rfl (Nat.le_of_ble_eq_true rfl) ⟨Nat.le_of_ble_eq_true rfl, Nat.le_of_ble_eq_true rfl⟩ dX12_order_15 (fun r9 σ9 τ9 H locs hp hw => ?_)
    obtain ⟨rfl, rfl, rfl⟩ := hp
    refine lv_if_eq (tgt := 54) hx hb dX12_order_18 (by decide) (fun c_5 => ?_) (fun c_5 => ?_)
    · rw [if_pos c_5] at h
      refine lv_iconst (v := (-1)) hx hb dX12_order_54 (by decide) ?_
      obtain ⟨rfl, rfl, rfl⟩ := sm_inj h
      exact gx_ri (post := gq_p (-1) σ_4 τ_4) (v := (-1)) S hr hlk hw rfl dX12_order_55 ⟨rfl, rfl, rfl⟩
    · rw [if_neg c_5] at h
      refine lv_iload_n hx hb dX12_order_21 rfl (lv_at hl 1 rfl) ?_
      refine lv_iload_n hx hb dX12_order_22 rfl (lv_at hl 2 rfl) ?_
      refine lv_icmp_eq (tgt := 54) hx hb dX12_order_23 (by decide) (fun c_6 => ?_) (fun c_6 => ?_)
      · rw [if_pos c_6] at h
        refine lv_iconst (v := (-1)) hx hb dX12_order_54 (by decide) ?_
        obtain ⟨rfl, rfl, rfl⟩ := sm_inj h
        exact gx_ri (post := gq_p (-1) σ_4 τ_4) (v := (-1)) S hr hlk hw rfl dX12_order_55 ⟨rfl, rfl, rfl⟩
      · rw [if_neg c_6] at h
        refine lv_aload_n hx hb dX12_order_26 rfl (lv_at hl 0 rfl) ?_
        refine gx_getr (j := 206) S hK hw t_199 cl_13 10 (by decide) rfl mw_1424 rfl dX12_order_27 ?_
        refine lv_bipush (v := 7) hx hb dX12_order_30 (by decide) ?_
        refine lv_iload_n hx hb dX12_order_32 rfl (lv_at hl 1 rfl) ?_
        refine lv_imul hx hb dX12_order_33 ?_
        refine lv_iconst (v := 4) hx hb dX12_order_34 (by decide) ?_
        refine lv_iadd hx hb dX12_order_35 ?_
        obtain ⟨j_7, hj_7, hi_7, h⟩ := ck_some h
        refine gx_iald S hK hw t_206 j_7 hj_7 hi_7 dX12_order_36 ?_
        refine lv_if_ne (tgt := 54) hx hb dX12_order_37 (by decide) (fun c_8 => ?_) (fun c_8 => ?_)
        · rw [if_neg c_8] at h
          refine lv_iconst (v := (-1)) hx hb dX12_order_54 (by decide) ?_
          obtain ⟨rfl, rfl, rfl⟩ := sm_inj h
          exact gx_ri (post := gq_p (-1) σ_4 τ_4) (v := (-1)) S hr hlk hw rfl dX12_order_55 ⟨rfl, rfl, rfl⟩
        · rw [if_pos c_8] at h
          refine lv_aload_n hx hb dX12_order_40 rfl (lv_at hl 0 rfl) ?_
          refine gx_getr (j := 206) S hK hw t_199 cl_13 10 (by decide) rfl mw_1424 rfl dX12_order_41 ?_
          refine lv_bipush (v := 7) hx hb dX12_order_44 (by decide) ?_
          refine lv_iload_n hx hb dX12_order_46 rfl (lv_at hl 2 rfl) ?_
          refine lv_imul hx hb dX12_order_47 ?_
          refine lv_iconst (v := 4) hx hb dX12_order_48 (by decide) ?_
          refine lv_iadd hx hb dX12_order_49 ?_
          obtain ⟨j_9, hj_9, hi_9, h⟩ := ck_some h
          refine gx_iald S hK hw t_206 j_9 hj_9 hi_9 dX12_order_50 ?_
          refine lv_if_eq (tgt := 56) hx hb dX12_order_51 (by decide) (fun c_10 => ?_) (fun c_10 => ?_)
          · rw [if_pos c_10] at h
            refine lv_aload_n hx hb dX12_order_56 rfl (lv_at hl 0 rfl) ?_
            refine gx_getr (j := 206) S hK hw t_199 cl_13 10 (by decide) rfl mw_1424 rfl dX12_order_57 ?_
            refine lv_bipush (v := 7) hx hb dX12_order_60 (by decide) ?_
            refine lv_iload_n hx hb dX12_order_62 rfl (lv_at hl 1 rfl) ?_
            refine lv_imul hx hb dX12_order_63 ?_
            refine lv_iconst (v := 5) hx hb dX12_order_64 (by decide) ?_
            refine lv_iadd hx hb dX12_order_65 ?_
            obtain ⟨j_11, hj_11, hi_11, h⟩ := ck_some h
            refine gx_iald S hK hw t_206 j_11 hj_11 hi_11 dX12_order_66 ?_
            refine lv_istore_n (lv' := [(3, .int (σ_4 206 j_11)), (0, .ref (E.2.2 + 199)), (1, .int x1), (2, .int x2)]) hx hb dX12_order_67 rfl hl (by decide) rfl (fun ls hl => ?_)
            obtain ⟨v_12, e_12, h⟩ := nm_some h
            have hl : lv_has ls 10 [(3, .int v_12), (0, .ref (E.2.2 + 199)), (1, .int x1), (2, .int x2)] := by rw [e_12]; exact hl
            refine lv_aload_n hx hb dX12_order_68 rfl (lv_at hl 1 rfl) ?_
            refine gx_getr (j := 206) S hK hw t_199 cl_13 10 (by decide) rfl mw_1424 rfl dX12_order_69 ?_
            refine lv_bipush (v := 7) hx hb dX12_order_72 (by decide) ?_
            refine lv_iload_n hx hb dX12_order_74 rfl (lv_at hl 3 rfl) ?_
            refine lv_imul hx hb dX12_order_75 ?_
            refine lv_iconst (v := 5) hx hb dX12_order_76 (by decide) ?_
            refine lv_iadd hx hb dX12_order_77 ?_
            obtain ⟨j_13, hj_13, hi_13, h⟩ := ck_some h
            refine gx_iald S hK hw t_206 j_13 hj_13 hi_13 dX12_order_78 ?_
            refine lv_istore (lv' := [(4, .int (σ_4 206 j_13)), (3, .int v_12), (0, .ref (E.2.2 + 199)), (1, .int x1), (2, .int x2)]) hx hb dX12_order_79 hl (by decide) rfl (fun ls hl => ?_)
            obtain ⟨v_14, e_14, h⟩ := nm_some h
            have hl : lv_has ls 10 [(4, .int v_14), (3, .int v_12), (0, .ref (E.2.2 + 199)), (1, .int x1), (2, .int x2)] := by rw [e_14]; exact hl
            refine lv_bipush (v := (-2)) hx hb dX12_order_81 (by decide) ?_
            refine lv_istore (lv' := [(5, .int (-2)), (4, .int v_14), (3, .int v_12), (0, .ref (E.2.2 + 199)), (1, .int x1), (2, .int x2)]) hx hb dX12_order_83 hl (by decide) rfl (fun ls hl => ?_)
            refine lv_iconst (v := 0) hx hb dX12_order_85 (by decide) ?_
            refine lv_istore (lv' := [(6, .int 0), (5, .int (-2)), (4, .int v_14), (3, .int v_12), (0, .ref (E.2.2 + 199)), (1, .int x1), (2, .int x2)]) hx hb dX12_order_86 hl (by decide) rfl (fun ls hl => ?_)
            refine lv_iconst (v := 0) hx hb dX12_order_88 (by decide) ?_
            refine lv_istore (lv' := [(7, .int 0), (6, .int 0), (5, .int (-2)), (4, .int v_14), (3, .int v_12), (0, .ref (E.2.2 + 199)), (1, .int x1), (2, .int x2)]) hx hb dX12_order_89 hl (by decide) rfl (fun ls hl => ?_)
            refine lv_iconst (v := 0) hx hb dX12_order_91 (by decide) ?_
            refine lv_istore (lv' := [(8, .int 0), (7, .int 0), (6, .int 0), (5, .int (-2)), (4, .int v_14), (3, .int v_12), (0, .ref (E.2.2 + 199)), (1, .int x1), (2, .int x2)]) hx hb dX12_order_92 hl (by decide) rfl (fun ls hl => ?_)
            exact h_X12_order_94 l S hr hlk hK N N σ_4 τ_4 x1 x2 v_12 v_14 (-2) 0 0 0 _ _ _ h _ _ _ hw (lv_sub hl [6, 7, 8, 5, 4, 3, 2, 1, 0] rfl)
          · rw [if_neg c_10] at h
            refine lv_iconst (v := (-1)) hx hb dX12_order_54 (by decide) ?_
            obtain ⟨rfl, rfl, rfl⟩ := sm_inj h
            exact gx_ri (post := gq_p (-1) σ_4 τ_4) (v := (-1)) S hr hlk hw rfl dX12_order_55 ⟨rfl, rfl, rfl⟩
set_option maxHeartbeats 4000000 in
set_option maxRecDepth 100000 in
theorem c_X12_order (l : Launch) {E : gE} (N : Nat) (σ : gI) (τ : gJ) (x1 : Int32) (x2 : Int32) {r : Int32} {σ1 : gI} {τ1 : gJ} (h : B_X12_order_0 N σ τ x1 x2 = some (r, σ1, τ1)) : gx_Mi l yX12_order cX12_order 10 (some .int) 7 gx_tb E σ τ [.ref (E.2.2 + 199), .int x1, .int x2] (gq_p r σ1 τ1) := by
  refine gx_bi (by decide +kernel) (Nat.le_of_ble_eq_true rfl) ?_
  intro P9 e9 s m9 below meth C9 S hr hlk hK hw ls hl
  have hl : lv_has ls 10 [(0, .ref (E.2.2 + 199)), (1, .int x1), (2, .int x2)] := hl
  exact b_X12_order_0 l S hr hlk hK N σ τ x1 x2 h hw hl
end F7
