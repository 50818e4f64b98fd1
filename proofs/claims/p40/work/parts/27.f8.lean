def sb_14 : List Int32 := [48, 49, 50, 51]
theorem zk_14 : gx_ss[14]? = some (RX12, 223, "0123", sb_14) := rfl
def sb_15 : List Int32 := [112, 109, 119, 105, 98, 99, 110, 102]
theorem zk_15 : gx_ss[15]? = some (RX12, 241, "pmwibcnf", sb_15) := rfl
def sb_16 : List Int32 := [60, 62, 61]
theorem zk_16 : gx_ss[16]? = some (RX12, 246, "<>=", sb_16) := rfl
def sb_17 : List Int32 := [43, 45]
theorem zk_17 : gx_ss[17]? = some (RX12, 248, "+-", sb_17) := rfl
def sb_18 : List Int32 := [42, 47]
theorem zk_18 : gx_ss[18]? = some (RX12, 250, "*/", sb_18) := rfl
section F8
variable {a9 v9 : Nat} {w9 : Value} {P9 : Program} {e9 : Env} {s : State} {m9 : MethodId} {below : List Frame} {meth : Method} {C9 : Code} {E : gE} {av : List Value}
/-! X12_place -/
def C_X12_place_109 (N : Nat) (rec_109 : gI → gJ → Int32 → Int32 → Int32 → Option (Int32 × gI × gJ)) (σ : gI) (τ : gJ) (x1 : Int32) (x3 : Int32) (x4 : Int32) : Option (Int32 × gI × gJ) := if σ 206 44 ≤ x4 then (some (x3, σ, τ)) else (ck ((7 * x4) + 4) 45 fun j_2 => if σ 206 j_2 = 0 then (ck ((7 * x4) + 0) 45 fun j_6 => if σ 206 j_6 = x1 then (nm (x3 ||| (1 <<< (x4 &&& 31))) fun v_10 => nm (x4 + 1) fun v_11 => rec_109 σ τ x1 v_10 v_11) else (nm (x3 ||| 0) fun v_8 => nm (x4 + 1) fun v_9 => rec_109 σ τ x1 v_8 v_9)) else (nm (x3 ||| 0) fun v_4 => nm (x4 + 1) fun v_5 => rec_109 σ τ x1 v_4 v_5))
def H_X12_place_109 (N : Nat) : Nat → gI → gJ → Int32 → Int32 → Int32 → Option (Int32 × gI × gJ) := itn (fun rec_109 => C_X12_place_109 N rec_109) (fun _ _ _ _ _ => none)
def B_X12_place_0 (N : Nat) (σ : gI) (τ : gJ) (x1 : Int32) (x2 : Int32) : Option (Int32 × gI × gJ) := nm (up2 σ 199 0 0) fun σ_1 => bd (B_X12_isPlace_0 N σ_1 τ x1) fun r_2 σ_2 τ_2 => if r_2 = 0 then (bd (B_X12_refuse_0 N σ_2 τ_2) fun r_4 σ_4 τ_4 => some (r_4, σ_4, τ_4)) else (bd (B_X12_in_0 N σ_2 τ_2 x2.toInt64 0 5) fun r_5 σ_5 τ_5 => if r_5 = 0 then (bd (B_X12_refuse_0 N σ_5 τ_5) fun r_16 σ_16 τ_16 => some (r_16, σ_16, τ_16)) else (if x2 = 0 then (ck x1 12 fun j_8 => some (σ_5 201 j_8, σ_5, τ_5)) else if x2 = 1 then (ck x1 12 fun j_10 => some (σ_5 202 j_10, σ_5, τ_5)) else if x2 = 2 then (ck x1 12 fun j_12 => some (σ_5 203 j_12, σ_5, τ_5)) else if x2 = 3 then (some (((σ_5 206 42) >>> (x1 &&& 31)) &&& 1, σ_5, τ_5)) else if x2 = 4 then (ck x1 12 fun j_15 => some (σ_5 204 j_15, σ_5, τ_5)) else (H_X12_place_109 N N σ_5 τ_5 x1 0 0)))
set_option maxHeartbeats 4000000 in
set_option maxRecDepth 100000 in
theorem k_X12_place_109 (l : Launch) (S : CallFix P9 m9 C9 cX12_place 5 s av.toArray gx_G RX12) (hr : meth.sig.returnType = (some .int)) (hlk : meth.locks = false) (hK : gx_K E s) (N : Nat) (rec_109 : gI → gJ → Int32 → Int32 → Int32 → Option (Int32 × gI × gJ)) (hrec_109 : ∀ (σ : gI) (τ : gJ) (x1 : Int32) (x3 : Int32) (x4 : Int32) (r : Int32) (σ1 : gI) (τ1 : gJ) (H : Heap) (locs : List Loc) (ls : Array Slot), rec_109 σ τ x1 x3 x4 = some (r, σ1, τ1) → gx_W gx_tb gx_tb.length E s σ τ H locs → lv_has ls 5 [(0, .ref (E.2.2 + 199)), (1, .int x1), (3, .int x3), (4, .int x4)] → W P9 l e9 (gx_rm 2) s m9 av.toArray below meth C9 H locs 0 0 (gq_Qi below av s E r σ1 τ1) (F0 m9 109 ls [])) (σ : gI) (τ : gJ) (x1 : Int32) (x3 : Int32) (x4 : Int32) {r : Int32} {σ1 : gI} {τ1 : gJ} (h : C_X12_place_109 N rec_109 σ τ x1 x3 x4 = some (r, σ1, τ1)) {H : Heap} {locs : List Loc} {ls : Array Slot} (hw : gx_W gx_tb gx_tb.length E s σ τ H locs) (hl : lv_has ls 5 [(0, .ref (E.2.2 + 199)), (1, .int x1), (3, .int x3), (4, .int x4)]) : W P9 l e9 (gx_rm 2) s m9 av.toArray below meth C9 H locs 0 0 (gq_Qi below av s E r σ1 τ1) (F0 m9 109 ls []) := by
  have hx := S.1
  have hb := S.2.1
  unfold C_X12_place_109 at h
  refine lv_iload hx hb dX12_place_109 (lv_at hl 3 rfl) ?_
  refine lv_aload_n hx hb dX12_place_111 rfl (lv_at hl 0 rfl) ?_
  refine gx_getr (j := 206) S hK hw t_199 cl_13 10 (by decide) rfl mw_1424 rfl dX12_place_112 ?_
  refine lv_bipush (v := 44) hx hb dX12_place_115 (by decide) ?_
  refine gx_iald S hK hw t_206 44 rfl (gx_in rfl (by decide) (by decide)) dX12_place_117 ?_
  refine lv_icmp_ge (tgt := 169) hx hb dX12_place_118 (by decide) (fun c_1 => ?_) (fun c_1 => ?_)
  · rw [if_pos c_1] at h
    refine lv_iload_n hx hb dX12_place_169 rfl (lv_at hl 2 rfl) ?_
    obtain ⟨rfl, rfl, rfl⟩ := sm_inj h
    exact gx_ri (post := gq_p x3 σ τ) (v := x3) S hr hlk hw rfl dX12_place_170 ⟨rfl, rfl, rfl⟩
  · rw [if_neg c_1] at h
    refine lv_iload_n hx hb dX12_place_121 rfl (lv_at hl 2 rfl) ?_
    refine lv_aload_n hx hb dX12_place_122 rfl (lv_at hl 0 rfl) ?_
    refine gx_getr (j := 206) S hK hw t_199 cl_13 10 (by decide) rfl mw_1424 rfl dX12_place_123 ?_
    refine lv_bipush (v := 7) hx hb dX12_place_126 (by decide) ?_
    refine lv_iload hx hb dX12_place_128 (lv_at hl 3 rfl) ?_
    refine lv_imul hx hb dX12_place_130 ?_
    refine lv_iconst (v := 4) hx hb dX12_place_131 (by decide) ?_
    refine lv_iadd hx hb dX12_place_132 ?_
    obtain ⟨j_2, hj_2, hi_2, h⟩ := ck_some h
    refine gx_iald S hK hw t_206 j_2 hj_2 hi_2 dX12_place_133 ?_
    refine lv_if_ne (tgt := 160) hx hb dX12_place_134 (by decide) (fun c_3 => ?_) (fun c_3 => ?_)
    · rw [if_neg c_3] at h
      refine lv_iconst (v := 0) hx hb dX12_place_160 (by decide) ?_
      refine lv_ior hx hb dX12_place_161 ?_
      refine lv_istore_n (lv' := [(3, .int (x3 ||| 0)), (0, .ref (E.2.2 + 199)), (1, .int x1), (4, .int x4)]) hx hb dX12_place_162 rfl hl (by decide) rfl (fun ls hl => ?_)
      obtain ⟨v_4, e_4, h⟩ := nm_some h
      have hl : lv_has ls 5 [(3, .int v_4), (0, .ref (E.2.2 + 199)), (1, .int x1), (4, .int x4)] := by rw [e_4]; exact hl
      refine lv_iinc (v := x4 + 1) (lv' := [(4, .int (x4 + 1)), (3, .int v_4), (0, .ref (E.2.2 + 199)), (1, .int x1)]) hx hb dX12_place_163 hl (k := 3) rfl rfl (by decide) rfl (fun ls hl => ?_)
      obtain ⟨v_5, e_5, h⟩ := nm_some h
      have hl : lv_has ls 5 [(4, .int v_5), (3, .int v_4), (0, .ref (E.2.2 + 199)), (1, .int x1)] := by rw [e_5]; exact hl
      refine lv_goto (tgt := 109) hx hb dX12_place_166 (by decide) ?_
      exact hrec_109 σ τ x1 v_4 v_5 _ _ _ _ _ _ h hw (lv_sub hl [2, 3, 1, 0] rfl)
    · rw [if_pos c_3] at h
      refine lv_aload_n hx hb dX12_place_137 rfl (lv_at hl 0 rfl) ?_
      refine gx_getr (j := 206) S hK hw t_199 cl_13 10 (by decide) rfl mw_1424 rfl dX12_place_138 ?_
      refine lv_bipush (v := 7) hx hb dX12_place_141 (by decide) ?_
      refine lv_iload hx hb dX12_place_143 (lv_at hl 3 rfl) ?_
      refine lv_imul hx hb dX12_place_145 ?_
      refine lv_iconst (v := 0) hx hb dX12_place_146 (by decide) ?_
      refine lv_iadd hx hb dX12_place_147 ?_
      obtain ⟨j_6, hj_6, hi_6, h⟩ := ck_some h
      refine gx_iald S hK hw t_206 j_6 hj_6 hi_6 dX12_place_148 ?_
      refine lv_iload_n hx hb dX12_place_149 rfl (lv_at hl 1 rfl) ?_
      refine lv_icmp_ne (tgt := 160) hx hb dX12_place_150 (by decide) (fun c_7 => ?_) (fun c_7 => ?_)
      · rw [if_neg c_7] at h
        refine lv_iconst (v := 0) hx hb dX12_place_160 (by decide) ?_
        refine lv_ior hx hb dX12_place_161 ?_
        refine lv_istore_n (lv' := [(3, .int (x3 ||| 0)), (0, .ref (E.2.2 + 199)), (1, .int x1), (4, .int x4)]) hx hb dX12_place_162 rfl hl (by decide) rfl (fun ls hl => ?_)
        obtain ⟨v_8, e_8, h⟩ := nm_some h
        have hl : lv_has ls 5 [(3, .int v_8), (0, .ref (E.2.2 + 199)), (1, .int x1), (4, .int x4)] := by rw [e_8]; exact hl
        refine lv_iinc (v := x4 + 1) (lv' := [(4, .int (x4 + 1)), (3, .int v_8), (0, .ref (E.2.2 + 199)), (1, .int x1)]) hx hb dX12_place_163 hl (k := 3) rfl rfl (by decide) rfl (fun ls hl => ?_)
        obtain ⟨v_9, e_9, h⟩ := nm_some h
        have hl : lv_has ls 5 [(4, .int v_9), (3, .int v_8), (0, .ref (E.2.2 + 199)), (1, .int x1)] := by rw [e_9]; exact hl
        refine lv_goto (tgt := 109) hx hb dX12_place_166 (by decide) ?_
        exact hrec_109 σ τ x1 v_8 v_9 _ _ _ _ _ _ h hw (lv_sub hl [2, 3, 1, 0] rfl)
      · rw [if_pos c_7] at h
        refine lv_iconst (v := 1) hx hb dX12_place_153 (by decide) ?_
        refine lv_iload hx hb dX12_place_154 (lv_at hl 3 rfl) ?_
        refine lv_ishl hx hb dX12_place_156 ?_
        refine lv_goto (tgt := 161) hx hb dX12_place_157 (by decide) ?_
        refine lv_ior hx hb dX12_place_161 ?_
        refine lv_istore_n (lv' := [(3, .int (x3 ||| (1 <<< (x4 &&& 31)))), (0, .ref (E.2.2 + 199)), (1, .int x1), (4, .int x4)]) hx hb dX12_place_162 rfl hl (by decide) rfl (fun ls hl => ?_)
        obtain ⟨v_10, e_10, h⟩ := nm_some h
        have hl : lv_has ls 5 [(3, .int v_10), (0, .ref (E.2.2 + 199)), (1, .int x1), (4, .int x4)] := by rw [e_10]; exact hl
        refine lv_iinc (v := x4 + 1) (lv' := [(4, .int (x4 + 1)), (3, .int v_10), (0, .ref (E.2.2 + 199)), (1, .int x1)]) hx hb dX12_place_163 hl (k := 3) rfl rfl (by decide) rfl (fun ls hl => ?_)
        obtain ⟨v_11, e_11, h⟩ := nm_some h
        have hl : lv_has ls 5 [(4, .int v_11), (3, .int v_10), (0, .ref (E.2.2 + 199)), (1, .int x1)] := by rw [e_11]; exact hl
        refine lv_goto (tgt := 109) hx hb dX12_place_166 (by decide) ?_
        exact hrec_109 σ τ x1 v_10 v_11 _ _ _ _ _ _ h hw (lv_sub hl [2, 3, 1, 0] rfl)
set_option maxHeartbeats 4000000 in
set_option maxRecDepth 100000 in
theorem h_X12_place_109 (l : Launch) (S : CallFix P9 m9 C9 cX12_place 5 s av.toArray gx_G RX12) (hr : meth.sig.returnType = (some .int)) (hlk : meth.locks = false) (hK : gx_K E s) (N : Nat) : ∀ (n : Nat) (σ : gI) (τ : gJ) (x1 : Int32) (x3 : Int32) (x4 : Int32) (r : Int32) (σ1 : gI) (τ1 : gJ), H_X12_place_109 N n σ τ x1 x3 x4 = some (r, σ1, τ1) → ∀ (H : Heap) (locs : List Loc) (ls : Array Slot), gx_W gx_tb gx_tb.length E s σ τ H locs → lv_has ls 5 [(0, .ref (E.2.2 + 199)), (1, .int x1), (3, .int x3), (4, .int x4)] → W P9 l e9 (gx_rm 2) s m9 av.toArray below meth C9 H locs 0 0 (gq_Qi below av s E r σ1 τ1) (F0 m9 109 ls []) := by
  intro n
  induction n with
  | zero => intro σ τ x1 x3 x4 r σ1 τ1 h; cases h
  | succ n ih =>
    intro σ τ x1 x3 x4 r σ1 τ1 h H locs ls hw hl
    exact k_X12_place_109 l S hr hlk hK N (H_X12_place_109 N n) (fun σ τ x1 x3 x4 r σ1 τ1 H locs ls h hw hl => ih σ τ x1 x3 x4 r σ1 τ1 h H locs ls hw hl) σ τ x1 x3 x4 h hw hl
set_option maxHeartbeats 4000000 in
set_option maxRecDepth 100000 in
theorem b_X12_place_0 (l : Launch) (S : CallFix P9 m9 C9 cX12_place 5 s av.toArray gx_G RX12) (hr : meth.sig.returnType = (some .int)) (hlk : meth.locks = false) (hK : gx_K E s) (N : Nat) (σ : gI) (τ : gJ) (x1 : Int32) (x2 : Int32) {r : Int32} {σ1 : gI} {τ1 : gJ} (h : B_X12_place_0 N σ τ x1 x2 = some (r, σ1, τ1)) {H : Heap} {locs : List Loc} {ls : Array Slot} (hw : gx_W gx_tb gx_tb.length E s σ τ H locs) (hl : lv_has ls 5 [(0, .ref (E.2.2 + 199)), (1, .int x1), (2, .int x2)]) : W P9 l e9 (gx_rm 2) s m9 av.toArray below meth C9 H locs 0 0 (gq_Qi below av s E r σ1 τ1) (F0 m9 0 ls []) := by
  have hx := S.1
  have hb := S.2.1
  unfold B_X12_place_0 at h
  refine lv_aload_n hx hb dX12_place_0 rfl (lv_at hl 0 rfl) ?_
  refine lv_iconst (v := 0) hx hb dX12_place_1 (by decide) ?_
  refine gx_put S hK gx_ok hw t_199 cl_13 0 (by decide) rfl mw_1414 rfl rfl (ty := .int) (v := 0) (by decide +kernel) rfl rfl dX12_place_2 (fun H locs hw => ?_)
  obtain ⟨σ_1, e_1, h⟩ := nm_some h
  rw [← e_1] at hw
  refine lv_aload_n hx hb dX12_place_5 rfl (lv_at hl 0 rfl) ?_
  refine lv_iload_n hx hb dX12_place_6 rfl (lv_at hl 1 rfl) ?_
  obtain ⟨r_2, σ_2, τ_2, q_2, h⟩ := bd_some h
  refine gx_cVi (As := [.int x1]) (rest := []) S hK gx_ok hw (c_X12_isPlace l (E := E) N σ_1 τ x1 q_2) cw_X12_133 t_199 cl_13 ⟨Nat.le_of_ble_eq_true rfl, Nat.le_of_ble_eq_true rfl⟩ rfl hl.1 rfl (Nat.le_of_ble_eq_true rfl) ⟨Nat.le_of_ble_eq_true rfl, Nat.le_of_ble_eq_true rfl⟩ dX12_place_7 (fun r9 σ9 τ9 H locs hp hw => ?_)
  obtain ⟨rfl, rfl, rfl⟩ := hp
  refine lv_if_eq (tgt := 25) hx hb dX12_place_10 (by decide) (fun c_3 => ?_) (fun c_3 => ?_)
  · rw [if_pos c_3] at h
    refine lv_aload_n hx hb dX12_place_25 rfl (lv_at hl 0 rfl) ?_
    obtain ⟨r_4, σ_4, τ_4, q_4, h⟩ := bd_some h
    refine gx_cVi (As := []) (rest := []) S hK gx_ok hw (c_X12_refuse l (E := E) N σ_2 τ_2 q_4) cw_X12_306 t_199 cl_13 ⟨Nat.le_of_ble_eq_true rfl, Nat.le_of_ble_eq_true rfl⟩ rfl hl.1 rfl (Nat.le_of_ble_eq_true rfl) ⟨Nat.le_of_ble_eq_true rfl, Nat.le_of_ble_eq_true rfl⟩ dX12_place_26 (fun r9 σ9 τ9 H locs hp hw => ?_)
    obtain ⟨rfl, rfl, rfl⟩ := hp
    obtain ⟨rfl, rfl, rfl⟩ := sm_inj h
    exact gx_ri (post := gq_p r_4 σ_4 τ_4) (v := r_4) S hr hlk hw rfl dX12_place_29 ⟨rfl, rfl, rfl⟩
  · rw [if_neg c_3] at h
    refine lv_iload_n hx hb dX12_place_13 rfl (lv_at hl 2 rfl) ?_
    refine lv_i2l (v := x2.toInt64) hx hb dX12_place_14 rfl ?_
    refine lv_lconst (v := 0) hx hb dX12_place_15 (by decide) ?_
    refine lv_ldc2 (v := 5) hx hb S.2.2.2.1 (S.2.2.2.2 _ mw_1789) dX12_place_16 ?_
    obtain ⟨r_5, σ_5, τ_5, q_5, h⟩ := bd_some h
    refine gx_cSi (As := [.long x2.toInt64, .long 0, .long 5]) (rest := []) S hK gx_ok hw (c_X12_in l (E := E) N σ_2 τ_2 x2.toInt64 0 5 q_5) cw_X12_129 ⟨Nat.le_of_ble_eq_true rfl, Nat.le_of_ble_eq_true rfl⟩ rfl hl.1 rfl (Nat.le_of_ble_eq_true rfl) ⟨Nat.le_of_ble_eq_true rfl, Nat.le_of_ble_eq_true rfl⟩ dX12_place_19 (fun r9 σ9 τ9 H locs hp hw => ?_)
    obtain ⟨rfl, rfl, rfl⟩ := hp
    refine lv_if_ne (tgt := 30) hx hb dX12_place_22 (by decide) (fun c_6 => ?_) (fun c_6 => ?_)
    · rw [if_neg c_6] at h
      refine lv_iload_n hx hb dX12_place_30 rfl (lv_at hl 2 rfl) ?_
      by_cases c_7 : x2 = 0
      · rw [if_pos c_7] at h
        refine gx_top (v := 0) c_7 ?_
        refine lv_tableIn (tgt := 64) hx hb dX12_place_31 (by decide) (by decide) rfl (by decide) ?_
        refine lv_aload_n hx hb dX12_place_64 rfl (lv_at hl 0 rfl) ?_
        refine gx_getr (j := 201) S hK hw t_199 cl_13 5 (by decide) rfl mw_1419 rfl dX12_place_65 ?_
        refine lv_iload_n hx hb dX12_place_68 rfl (lv_at hl 1 rfl) ?_
        obtain ⟨j_8, hj_8, hi_8, h⟩ := ck_some h
        refine gx_iald S hK hw t_201 j_8 hj_8 hi_8 dX12_place_69 ?_
        obtain ⟨rfl, rfl, rfl⟩ := sm_inj h
        exact gx_ri (post := gq_p (σ_5 201 j_8) σ_5 τ_5) (v := σ_5 201 j_8) S hr hlk hw rfl dX12_place_70 ⟨rfl, rfl, rfl⟩
      rw [if_neg c_7] at h
      by_cases c_9 : x2 = 1
      · rw [if_pos c_9] at h
        refine gx_top (v := 1) c_9 ?_
        refine lv_tableIn (tgt := 71) hx hb dX12_place_31 (by decide) (by decide) rfl (by decide) ?_
        refine lv_aload_n hx hb dX12_place_71 rfl (lv_at hl 0 rfl) ?_
        refine gx_getr (j := 202) S hK hw t_199 cl_13 6 (by decide) rfl mw_1420 rfl dX12_place_72 ?_
        refine lv_iload_n hx hb dX12_place_75 rfl (lv_at hl 1 rfl) ?_
        obtain ⟨j_10, hj_10, hi_10, h⟩ := ck_some h
        refine gx_iald S hK hw t_202 j_10 hj_10 hi_10 dX12_place_76 ?_
        obtain ⟨rfl, rfl, rfl⟩ := sm_inj h
        exact gx_ri (post := gq_p (σ_5 202 j_10) σ_5 τ_5) (v := σ_5 202 j_10) S hr hlk hw rfl dX12_place_77 ⟨rfl, rfl, rfl⟩
      rw [if_neg c_9] at h
      by_cases c_11 : x2 = 2
      · rw [if_pos c_11] at h
        refine gx_top (v := 2) c_11 ?_
        refine lv_tableIn (tgt := 78) hx hb dX12_place_31 (by decide) (by decide) rfl (by decide) ?_
        refine lv_aload_n hx hb dX12_place_78 rfl (lv_at hl 0 rfl) ?_
        refine gx_getr (j := 203) S hK hw t_199 cl_13 7 (by decide) rfl mw_1421 rfl dX12_place_79 ?_
        refine lv_iload_n hx hb dX12_place_82 rfl (lv_at hl 1 rfl) ?_
        obtain ⟨j_12, hj_12, hi_12, h⟩ := ck_some h
        refine gx_iald S hK hw t_203 j_12 hj_12 hi_12 dX12_place_83 ?_
        obtain ⟨rfl, rfl, rfl⟩ := sm_inj h
        exact gx_ri (post := gq_p (σ_5 203 j_12) σ_5 τ_5) (v := σ_5 203 j_12) S hr hlk hw rfl dX12_place_84 ⟨rfl, rfl, rfl⟩
      rw [if_neg c_11] at h
      by_cases c_13 : x2 = 3
      · rw [if_pos c_13] at h
        refine gx_top (v := 3) c_13 ?_
        refine lv_tableIn (tgt := 85) hx hb dX12_place_31 (by decide) (by decide) rfl (by decide) ?_
        refine lv_aload_n hx hb dX12_place_85 rfl (lv_at hl 0 rfl) ?_
        refine gx_getr (j := 206) S hK hw t_199 cl_13 10 (by decide) rfl mw_1424 rfl dX12_place_86 ?_
        refine lv_bipush (v := 42) hx hb dX12_place_89 (by decide) ?_
        refine gx_iald S hK hw t_206 42 rfl (gx_in rfl (by decide) (by decide)) dX12_place_91 ?_
        refine lv_iload_n hx hb dX12_place_92 rfl (lv_at hl 1 rfl) ?_
        refine lv_ishr hx hb dX12_place_93 ?_
        refine lv_iconst (v := 1) hx hb dX12_place_94 (by decide) ?_
        refine lv_iand hx hb dX12_place_95 ?_
        obtain ⟨rfl, rfl, rfl⟩ := sm_inj h
        exact gx_ri (post := gq_p (((σ_5 206 42) >>> (x1 &&& 31)) &&& 1) σ_5 τ_5) (v := ((σ_5 206 42) >>> (x1 &&& 31)) &&& 1) S hr hlk hw rfl dX12_place_96 ⟨rfl, rfl, rfl⟩
      rw [if_neg c_13] at h
      by_cases c_14 : x2 = 4
      · rw [if_pos c_14] at h
        refine gx_top (v := 4) c_14 ?_
        refine lv_tableIn (tgt := 97) hx hb dX12_place_31 (by decide) (by decide) rfl (by decide) ?_
        refine lv_aload_n hx hb dX12_place_97 rfl (lv_at hl 0 rfl) ?_
        refine gx_getr (j := 204) S hK hw t_199 cl_13 8 (by decide) rfl mw_1422 rfl dX12_place_98 ?_
        refine lv_iload_n hx hb dX12_place_101 rfl (lv_at hl 1 rfl) ?_
        obtain ⟨j_15, hj_15, hi_15, h⟩ := ck_some h
        refine gx_iald S hK hw t_204 j_15 hj_15 hi_15 dX12_place_102 ?_
        obtain ⟨rfl, rfl, rfl⟩ := sm_inj h
        exact gx_ri (post := gq_p (σ_5 204 j_15) σ_5 τ_5) (v := σ_5 204 j_15) S hr hlk hw rfl dX12_place_103 ⟨rfl, rfl, rfl⟩
      rw [if_neg c_14] at h
      refine lv_tableOut (tgt := 104) hx hb dX12_place_31 (by have t_7 := lv_neT (a := 0) c_7 rfl; have t_9 := lv_neT (a := 1) c_9 rfl; have t_11 := lv_neT (a := 2) c_11 rfl; have t_13 := lv_neT (a := 3) c_13 rfl; have t_14 := lv_neT (a := 4) c_14 rfl; omega) (by decide) ?_
      refine lv_iconst (v := 0) hx hb dX12_place_104 (by decide) ?_
      refine lv_istore_n (lv' := [(3, .int 0), (0, .ref (E.2.2 + 199)), (1, .int x1), (2, .int x2)]) hx hb dX12_place_105 rfl hl (by decide) rfl (fun ls hl => ?_)
      refine lv_iconst (v := 0) hx hb dX12_place_106 (by decide) ?_
      refine lv_istore (lv' := [(4, .int 0), (3, .int 0), (0, .ref (E.2.2 + 199)), (1, .int x1), (2, .int x2)]) hx hb dX12_place_107 hl (by decide) rfl (fun ls hl => ?_)
      exact h_X12_place_109 l S hr hlk hK N N σ_5 τ_5 x1 0 0 _ _ _ h _ _ _ hw (lv_sub hl [2, 3, 1, 0] rfl)
    · rw [if_pos c_6] at h
      refine lv_aload_n hx hb dX12_place_25 rfl (lv_at hl 0 rfl) ?_
      obtain ⟨r_16, σ_16, τ_16, q_16, h⟩ := bd_some h
      refine gx_cVi (As := []) (rest := []) S hK gx_ok hw (c_X12_refuse l (E := E) N σ_5 τ_5 q_16) cw_X12_306 t_199 cl_13 ⟨Nat.le_of_ble_eq_true rfl, Nat.le_of_ble_eq_true rfl⟩ rfl hl.1 rfl (Nat.le_of_ble_eq_true rfl) ⟨Nat.le_of_ble_eq_true rfl, Nat.le_of_ble_eq_true rfl⟩ dX12_place_26 (fun r9 σ9 τ9 H locs hp hw => ?_)
      obtain ⟨rfl, rfl, rfl⟩ := hp
      obtain ⟨rfl, rfl, rfl⟩ := sm_inj h
      exact gx_ri (post := gq_p r_16 σ_16 τ_16) (v := r_16) S hr hlk hw rfl dX12_place_29 ⟨rfl, rfl, rfl⟩
set_option maxHeartbeats 4000000 in
set_option maxRecDepth 100000 in
theorem c_X12_place (l : Launch) {E : gE} (N : Nat) (σ : gI) (τ : gJ) (x1 : Int32) (x2 : Int32) {r : Int32} {σ1 : gI} {τ1 : gJ} (h : B_X12_place_0 N σ τ x1 x2 = some (r, σ1, τ1)) : gx_Mi l yX12_place cX12_place 5 (some .int) 2 gx_tb E σ τ [.ref (E.2.2 + 199), .int x1, .int x2] (gq_p r σ1 τ1) := by
  refine gx_bi (by decide +kernel) (Nat.le_of_ble_eq_true rfl) ?_
  intro P9 e9 s m9 below meth C9 S hr hlk hK hw ls hl
  have hl : lv_has ls 5 [(0, .ref (E.2.2 + 199)), (1, .int x1), (2, .int x2)] := hl
  exact b_X12_place_0 l S hr hlk hK N σ τ x1 x2 h hw hl
/-! X12_plank -/
def B_X12_plank_0 (N : Nat) (σ : gI) (τ : gJ) (x1 : Int32) (x2 : Int32) : Option (Int32 × gI × gJ) := nm (up2 σ 199 0 0) fun σ_1 => bd (B_X12_isFork_0 N σ_1 τ x1) fun r_2 σ_2 τ_2 => if r_2 = 0 then (some (0, σ_2, τ_2)) else (bd (B_X12_in_0 N σ_2 τ_2 x2.toInt64 0 1) fun r_4 σ_4 τ_4 => if r_4 = 0 then (some (0, σ_4, τ_4)) else (bd (B_X12_putsBy_0 N σ_4 τ_4) fun _ σ_6 τ_6 => nm (up2 σ_6 206 42 (((σ_6 206 42) &&& ((1 <<< (x1 &&& 31)) ^^^ (-1))) ||| (x2 <<< (x1 &&& 31)))) fun σ_7 => bd (B_X12_adds_0 N σ_7 τ_6 1) fun r_8 σ_8 τ_8 => if r_8 = 1 then (some (1, σ_8, τ_8)) else (some (0, σ_8, τ_8))))
set_option maxHeartbeats 4000000 in
set_option maxRecDepth 100000 in
theorem b_X12_plank_0 (l : Launch) (S : CallFix P9 m9 C9 cX12_plank 3 s av.toArray gx_G RX12) (hr : meth.sig.returnType = (some .boolean)) (hlk : meth.locks = false) (hK : gx_K E s) (N : Nat) (σ : gI) (τ : gJ) (x1 : Int32) (x2 : Int32) {r : Int32} {σ1 : gI} {τ1 : gJ} (h : B_X12_plank_0 N σ τ x1 x2 = some (r, σ1, τ1)) {H : Heap} {locs : List Loc} {ls : Array Slot} (hw : gx_W gx_tb gx_tb.length E s σ τ H locs) (hl : lv_has ls 3 [(0, .ref (E.2.2 + 199)), (1, .int x1), (2, .int x2)]) : W P9 l e9 (gx_rm 3) s m9 av.toArray below meth C9 H locs 0 0 (gq_Qi below av s E r σ1 τ1) (F0 m9 0 ls []) := by
  have hx := S.1
  have hb := S.2.1
  unfold B_X12_plank_0 at h
  refine lv_aload_n hx hb dX12_plank_0 rfl (lv_at hl 0 rfl) ?_
  refine lv_iconst (v := 0) hx hb dX12_plank_1 (by decide) ?_
  refine gx_put S hK gx_ok hw t_199 cl_13 0 (by decide) rfl mw_1414 rfl rfl (ty := .int) (v := 0) (by decide +kernel) rfl rfl dX12_plank_2 (fun H locs hw => ?_)
  obtain ⟨σ_1, e_1, h⟩ := nm_some h
  rw [← e_1] at hw
  refine lv_aload_n hx hb dX12_plank_5 rfl (lv_at hl 0 rfl) ?_
  refine lv_iload_n hx hb dX12_plank_6 rfl (lv_at hl 1 rfl) ?_
  obtain ⟨r_2, σ_2, τ_2, q_2, h⟩ := bd_some h
  refine gx_cVi (As := [.int x1]) (rest := []) S hK gx_ok hw (c_X12_isFork l (E := E) N σ_1 τ x1 q_2) cw_X12_316 t_199 cl_13 ⟨Nat.le_of_ble_eq_true rfl, Nat.le_of_ble_eq_true rfl⟩ rfl hl.1 rfl (Nat.le_of_ble_eq_true rfl) ⟨Nat.le_of_ble_eq_true rfl, Nat.le_of_ble_eq_true rfl⟩ dX12_plank_7 (fun r9 σ9 τ9 H locs hp hw => ?_)
  obtain ⟨rfl, rfl, rfl⟩ := hp
  refine lv_if_eq (tgt := 23) hx hb dX12_plank_10 (by decide) (fun c_3 => ?_) (fun c_3 => ?_)
  · rw [if_pos c_3] at h
    refine lv_iconst (v := 0) hx hb dX12_plank_23 (by decide) ?_
    obtain ⟨rfl, rfl, rfl⟩ := sm_inj h
    exact gx_ri (post := gq_p 0 σ_2 τ_2) (v := 0) S hr hlk hw rfl dX12_plank_24 ⟨rfl, rfl, rfl⟩
  · rw [if_neg c_3] at h
    refine lv_iload_n hx hb dX12_plank_13 rfl (lv_at hl 2 rfl) ?_
    refine lv_i2l (v := x2.toInt64) hx hb dX12_plank_14 rfl ?_
    refine lv_lconst (v := 0) hx hb dX12_plank_15 (by decide) ?_
    refine lv_lconst (v := 1) hx hb dX12_plank_16 (by decide) ?_
    obtain ⟨r_4, σ_4, τ_4, q_4, h⟩ := bd_some h
    refine gx_cSi (As := [.long x2.toInt64, .long 0, .long 1]) (rest := []) S hK gx_ok hw (c_X12_in l (E := E) N σ_2 τ_2 x2.toInt64 0 1 q_4) cw_X12_129 ⟨Nat.le_of_ble_eq_true rfl, Nat.le_of_ble_eq_true rfl⟩ rfl hl.1 rfl (Nat.le_of_ble_eq_true rfl) ⟨Nat.le_of_ble_eq_true rfl, Nat.le_of_ble_eq_true rfl⟩ dX12_plank_17 (fun r9 σ9 τ9 H locs hp hw => ?_)
    obtain ⟨rfl, rfl, rfl⟩ := hp
    refine lv_if_ne (tgt := 25) hx hb dX12_plank_20 (by decide) (fun c_5 => ?_) (fun c_5 => ?_)
    · rw [if_neg c_5] at h
      refine lv_aload_n hx hb dX12_plank_25 rfl (lv_at hl 0 rfl) ?_
      obtain ⟨u_6, σ_6, τ_6, q_6, h⟩ := bd_some h
      refine gx_cVv (As := []) (rest := []) S hK gx_ok hw (c_X12_putsBy l (E := E) N σ_4 τ_4 q_6) cw_X12_319 t_199 cl_13 ⟨Nat.le_of_ble_eq_true rfl, Nat.le_of_ble_eq_true rfl⟩ rfl hl.1 rfl (Nat.le_of_ble_eq_true rfl) ⟨Nat.le_of_ble_eq_true rfl, Nat.le_of_ble_eq_true rfl⟩ dX12_plank_26 (fun σ9 τ9 H locs hp hw => ?_)
      obtain ⟨rfl, rfl⟩ := hp
      refine lv_aload_n hx hb dX12_plank_29 rfl (lv_at hl 0 rfl) ?_
      refine gx_getr (j := 206) S hK hw t_199 cl_13 10 (by decide) rfl mw_1424 rfl dX12_plank_30 ?_
      refine lv_bipush (v := 42) hx hb dX12_plank_33 (by decide) ?_
      refine lv_aload_n hx hb dX12_plank_35 rfl (lv_at hl 0 rfl) ?_
      refine gx_getr (j := 206) S hK hw t_199 cl_13 10 (by decide) rfl mw_1424 rfl dX12_plank_36 ?_
      refine lv_bipush (v := 42) hx hb dX12_plank_39 (by decide) ?_
      refine gx_iald S hK hw t_206 42 rfl (gx_in rfl (by decide) (by decide)) dX12_plank_41 ?_
      refine lv_iconst (v := 1) hx hb dX12_plank_42 (by decide) ?_
      refine lv_iload_n hx hb dX12_plank_43 rfl (lv_at hl 1 rfl) ?_
      refine lv_ishl hx hb dX12_plank_44 ?_
      refine lv_iconst (v := (-1)) hx hb dX12_plank_45 (by decide) ?_
      refine lv_ixor hx hb dX12_plank_46 ?_
      refine lv_iand hx hb dX12_plank_47 ?_
      refine lv_iload_n hx hb dX12_plank_48 rfl (lv_at hl 2 rfl) ?_
      refine lv_iload_n hx hb dX12_plank_49 rfl (lv_at hl 1 rfl) ?_
      refine lv_ishl hx hb dX12_plank_50 ?_
      refine lv_ior hx hb dX12_plank_51 ?_
      refine gx_iast S hK gx_ok hw t_206 42 rfl (gx_in rfl (by decide) (by decide)) dX12_plank_52 (fun H locs hw => ?_)
      obtain ⟨σ_7, e_7, h⟩ := nm_some h
      rw [← e_7] at hw
      refine lv_aload_n hx hb dX12_plank_53 rfl (lv_at hl 0 rfl) ?_
      refine lv_iconst (v := 1) hx hb dX12_plank_54 (by decide) ?_
      obtain ⟨r_8, σ_8, τ_8, q_8, h⟩ := bd_some h
      refine gx_cVi (As := [.int 1]) (rest := []) S hK gx_ok hw (c_X12_adds l (E := E) N σ_7 τ_6 1 q_8) cw_X12_322 t_199 cl_13 ⟨Nat.le_of_ble_eq_true rfl, Nat.le_of_ble_eq_true rfl⟩ rfl hl.1 rfl (Nat.le_of_ble_eq_true rfl) ⟨Nat.le_of_ble_eq_true rfl, Nat.le_of_ble_eq_true rfl⟩ dX12_plank_55 (fun r9 σ9 τ9 H locs hp hw => ?_)
      obtain ⟨rfl, rfl, rfl⟩ := hp
      refine lv_iconst (v := 1) hx hb dX12_plank_58 (by decide) ?_
      refine lv_icmp_ne (tgt := 66) hx hb dX12_plank_59 (by decide) (fun c_9 => ?_) (fun c_9 => ?_)
      · rw [if_neg c_9] at h
        refine lv_iconst (v := 0) hx hb dX12_plank_66 (by decide) ?_
        obtain ⟨rfl, rfl, rfl⟩ := sm_inj h
        exact gx_ri (post := gq_p 0 σ_8 τ_8) (v := 0) S hr hlk hw rfl dX12_plank_67 ⟨rfl, rfl, rfl⟩
      · rw [if_pos c_9] at h
        refine lv_iconst (v := 1) hx hb dX12_plank_62 (by decide) ?_
        refine lv_goto (tgt := 67) hx hb dX12_plank_63 (by decide) ?_
        obtain ⟨rfl, rfl, rfl⟩ := sm_inj h
        exact gx_ri (post := gq_p 1 σ_8 τ_8) (v := 1) S hr hlk hw rfl dX12_plank_67 ⟨rfl, rfl, rfl⟩
    · rw [if_pos c_5] at h
      refine lv_iconst (v := 0) hx hb dX12_plank_23 (by decide) ?_
      obtain ⟨rfl, rfl, rfl⟩ := sm_inj h
      exact gx_ri (post := gq_p 0 σ_4 τ_4) (v := 0) S hr hlk hw rfl dX12_plank_24 ⟨rfl, rfl, rfl⟩
set_option maxHeartbeats 4000000 in
set_option maxRecDepth 100000 in
theorem c_X12_plank (l : Launch) {E : gE} (N : Nat) (σ : gI) (τ : gJ) (x1 : Int32) (x2 : Int32) {r : Int32} {σ1 : gI} {τ1 : gJ} (h : B_X12_plank_0 N σ τ x1 x2 = some (r, σ1, τ1)) : gx_Mi l yX12_plank cX12_plank 3 (some .boolean) 3 gx_tb E σ τ [.ref (E.2.2 + 199), .int x1, .int x2] (gq_p r σ1 τ1) := by
  refine gx_bi (by decide +kernel) (Nat.le_of_ble_eq_true rfl) ?_
  intro P9 e9 s m9 below meth C9 S hr hlk hK hw ls hl
  have hl : lv_has ls 3 [(0, .ref (E.2.2 + 199)), (1, .int x1), (2, .int x2)] := hl
  exact b_X12_plank_0 l S hr hlk hK N σ τ x1 x2 h hw hl
/-! X12_put -/
def B_X12_put_0 (N : Nat) (σ : gI) (τ : gJ) (x1 : Int32) (x2 : Int32) (x3 : Int32) (x4 : Int32) : Option (Int32 × gI × gJ) := nm (up2 σ 199 0 0) fun σ_1 => bd (B_X12_putsBy_0 N σ_1 τ) fun _ σ_2 τ_2 => bd (B_X12_comesNow_0 N σ_2 τ_2 x1 x2 x3 x4) fun r_3 σ_3 τ_3 => if 0 ≤ r_3 then (bd (B_X12_adds_0 N σ_3 τ_3 r_3) fun r_5 σ_5 τ_5 => some (r_5, σ_5, τ_5)) else (some (r_3, σ_3, τ_3))
set_option maxHeartbeats 4000000 in
set_option maxRecDepth 100000 in
theorem b_X12_put_0 (l : Launch) (S : CallFix P9 m9 C9 cX12_put 6 s av.toArray gx_G RX12) (hr : meth.sig.returnType = (some .int)) (hlk : meth.locks = false) (hK : gx_K E s) (N : Nat) (σ : gI) (τ : gJ) (x1 : Int32) (x2 : Int32) (x3 : Int32) (x4 : Int32) {r : Int32} {σ1 : gI} {τ1 : gJ} (h : B_X12_put_0 N σ τ x1 x2 x3 x4 = some (r, σ1, τ1)) {H : Heap} {locs : List Loc} {ls : Array Slot} (hw : gx_W gx_tb gx_tb.length E s σ τ H locs) (hl : lv_has ls 6 [(0, .ref (E.2.2 + 199)), (1, .int x1), (2, .int x2), (3, .int x3), (4, .int x4)]) : W P9 l e9 (gx_rm 4) s m9 av.toArray below meth C9 H locs 0 0 (gq_Qi below av s E r σ1 τ1) (F0 m9 0 ls []) := by
  have hx := S.1
  have hb := S.2.1
  unfold B_X12_put_0 at h
  refine lv_aload_n hx hb dX12_put_0 rfl (lv_at hl 0 rfl) ?_
  refine lv_iconst (v := 0) hx hb dX12_put_1 (by decide) ?_
  refine gx_put S hK gx_ok hw t_199 cl_13 0 (by decide) rfl mw_1414 rfl rfl (ty := .int) (v := 0) (by decide +kernel) rfl rfl dX12_put_2 (fun H locs hw => ?_)
  obtain ⟨σ_1, e_1, h⟩ := nm_some h
  rw [← e_1] at hw
  refine lv_aload_n hx hb dX12_put_5 rfl (lv_at hl 0 rfl) ?_
  obtain ⟨u_2, σ_2, τ_2, q_2, h⟩ := bd_some h
  refine gx_cVv (As := []) (rest := []) S hK gx_ok hw (c_X12_putsBy l (E := E) N σ_1 τ q_2) cw_X12_319 t_199 cl_13 ⟨Nat.le_of_ble_eq_true rfl, Nat.le_of_ble_eq_true rfl⟩ rfl hl.1 rfl (Nat.le_of_ble_eq_true rfl) ⟨Nat.le_of_ble_eq_true rfl, Nat.le_of_ble_eq_true rfl⟩ dX12_put_6 (fun σ9 τ9 H locs hp hw => ?_)
  obtain ⟨rfl, rfl⟩ := hp
  refine lv_aload_n hx hb dX12_put_9 rfl (lv_at hl 0 rfl) ?_
  refine lv_iload_n hx hb dX12_put_10 rfl (lv_at hl 1 rfl) ?_
  refine lv_iload_n hx hb dX12_put_11 rfl (lv_at hl 2 rfl) ?_
  refine lv_iload_n hx hb dX12_put_12 rfl (lv_at hl 3 rfl) ?_
  refine lv_iload hx hb dX12_put_13 (lv_at hl 4 rfl) ?_
  obtain ⟨r_3, σ_3, τ_3, q_3, h⟩ := bd_some h
  refine gx_cVi (As := [.int x1, .int x2, .int x3, .int x4]) (rest := []) S hK gx_ok hw (c_X12_comesNow l (E := E) N σ_2 τ_2 x1 x2 x3 x4 q_3) cw_X12_339 t_199 cl_13 ⟨Nat.le_of_ble_eq_true rfl, Nat.le_of_ble_eq_true rfl⟩ rfl hl.1 rfl (Nat.le_of_ble_eq_true rfl) ⟨Nat.le_of_ble_eq_true rfl, Nat.le_of_ble_eq_true rfl⟩ dX12_put_15 (fun r9 σ9 τ9 H locs hp hw => ?_)
  obtain ⟨rfl, rfl, rfl⟩ := hp
  refine lv_istore (lv' := [(5, .int r_3), (0, .ref (E.2.2 + 199)), (1, .int x1), (2, .int x2), (3, .int x3), (4, .int x4)]) hx hb dX12_put_18 hl (by decide) rfl (fun ls hl => ?_)
  refine lv_iload hx hb dX12_put_20 (lv_at hl 0 rfl) ?_
  refine lv_if_ge (tgt := 30) hx hb dX12_put_22 (by decide) (fun c_4 => ?_) (fun c_4 => ?_)
  · rw [if_pos c_4] at h
    refine lv_aload_n hx hb dX12_put_30 rfl (lv_at hl 1 rfl) ?_
    refine lv_iload hx hb dX12_put_31 (lv_at hl 0 rfl) ?_
    obtain ⟨r_5, σ_5, τ_5, q_5, h⟩ := bd_some h
    refine gx_cVi (As := [.int r_3]) (rest := []) S hK gx_ok hw (c_X12_adds l (E := E) N σ_3 τ_3 r_3 q_5) cw_X12_322 t_199 cl_13 ⟨Nat.le_of_ble_eq_true rfl, Nat.le_of_ble_eq_true rfl⟩ rfl hl.1 rfl (Nat.le_of_ble_eq_true rfl) ⟨Nat.le_of_ble_eq_true rfl, Nat.le_of_ble_eq_true rfl⟩ dX12_put_33 (fun r9 σ9 τ9 H locs hp hw => ?_)
    obtain ⟨rfl, rfl, rfl⟩ := hp
    obtain ⟨rfl, rfl, rfl⟩ := sm_inj h
    exact gx_ri (post := gq_p r_5 σ_5 τ_5) (v := r_5) S hr hlk hw rfl dX12_put_36 ⟨rfl, rfl, rfl⟩
  · rw [if_neg c_4] at h
    refine lv_iload hx hb dX12_put_25 (lv_at hl 0 rfl) ?_
    refine lv_goto (tgt := 36) hx hb dX12_put_27 (by decide) ?_
    obtain ⟨rfl, rfl, rfl⟩ := sm_inj h
    exact gx_ri (post := gq_p r_3 σ_3 τ_3) (v := r_3) S hr hlk hw rfl dX12_put_36 ⟨rfl, rfl, rfl⟩
set_option maxHeartbeats 4000000 in
set_option maxRecDepth 100000 in
theorem c_X12_put (l : Launch) {E : gE} (N : Nat) (σ : gI) (τ : gJ) (x1 : Int32) (x2 : Int32) (x3 : Int32) (x4 : Int32) {r : Int32} {σ1 : gI} {τ1 : gJ} (h : B_X12_put_0 N σ τ x1 x2 x3 x4 = some (r, σ1, τ1)) : gx_Mi l yX12_put cX12_put 6 (some .int) 4 gx_tb E σ τ [.ref (E.2.2 + 199), .int x1, .int x2, .int x3, .int x4] (gq_p r σ1 τ1) := by
  refine gx_bi (by decide +kernel) (Nat.le_of_ble_eq_true rfl) ?_
  intro P9 e9 s m9 below meth C9 S hr hlk hK hw ls hl
  have hl : lv_has ls 6 [(0, .ref (E.2.2 + 199)), (1, .int x1), (2, .int x2), (3, .int x3), (4, .int x4)] := hl
  exact b_X12_put_0 l S hr hlk hK N σ τ x1 x2 x3 x4 h hw hl
/-! X12_readsLetter -/
def B_X12_readsLetter_0 (N : Nat) (σ : gI) (τ : gJ) : Option (Int32 × gI × gJ) := bd (B_X12_takesOf_0 N sb_10 σ τ) fun r_1 σ_1 τ_1 => if r_1 < 0 then (some (r_1, σ_1, τ_1)) else (ck (σ_1 199 24) 80 fun j_3 => nm (up2 σ_1 213 j_3 r_1) fun σ_4 => ck (σ_4 199 24) 80 fun j_5 => nm (up2 σ_4 214 j_5 ((σ_4 199 14) - 1)) fun σ_6 => nm (up2 σ_6 199 24 ((σ_6 199 24) + 1)) fun σ_7 => some (r_1, σ_7, τ_1))
set_option maxHeartbeats 4000000 in
set_option maxRecDepth 100000 in
theorem b_X12_readsLetter_0 (l : Launch) (S : CallFix P9 m9 C9 cX12_readsLetter 2 s av.toArray gx_G RX12) (hr : meth.sig.returnType = (some .int)) (hlk : meth.locks = false) (hK : gx_K E s) (N : Nat) (σ : gI) (τ : gJ) {r : Int32} {σ1 : gI} {τ1 : gJ} (h : B_X12_readsLetter_0 N σ τ = some (r, σ1, τ1)) {H : Heap} {locs : List Loc} {ls : Array Slot} (hw : gx_W gx_tb gx_tb.length E s σ τ H locs) (hl : lv_has ls 2 [(0, .ref (E.2.2 + 199))]) : W P9 l e9 (gx_rm 6) s m9 av.toArray below meth C9 H locs 0 0 (gq_Qi below av s E r σ1 τ1) (F0 m9 0 ls []) := by
  have hx := S.1
  have hb := S.2.1
  unfold B_X12_readsLetter_0 at h
  refine lv_aload_n hx hb dX12_readsLetter_0 rfl (lv_at hl 0 rfl) ?_
  refine gx_lds S hK ss_10 rfl dX12_readsLetter_1 ?_
  obtain ⟨r_1, σ_1, τ_1, q_1, h⟩ := bd_some h
  refine zs_V (As := [.ref (E.1.2.1 10)]) (rest := []) S hK hw (zs_k hK hw zk_10) (c_X12_takesOf l (E := E) N sb_10 σ τ q_1) rfl cw_X12_183 (va_recv hK.1 hw.1 cl_13.1 (gx_at t_199)) ⟨Nat.le_of_ble_eq_true rfl, Nat.le_of_ble_eq_true rfl⟩ rfl hl.1 rfl (Nat.le_of_ble_eq_true rfl) ⟨Nat.le_of_ble_eq_true rfl, Nat.le_of_ble_eq_true rfl⟩ dX12_readsLetter_3 (fun r9 σ9 τ9 H locs hp hw => ?_)
  obtain ⟨rfl, rfl, rfl⟩ := hp
  refine lv_istore_n (lv' := [(1, .int r_1), (0, .ref (E.2.2 + 199))]) hx hb dX12_readsLetter_6 rfl hl (by decide) rfl (fun ls hl => ?_)
  refine lv_iload_n hx hb dX12_readsLetter_7 rfl (lv_at hl 0 rfl) ?_
  refine lv_if_lt (tgt := 46) hx hb dX12_readsLetter_8 (by decide) (fun c_2 => ?_) (fun c_2 => ?_)
  · rw [if_pos c_2] at h
    refine lv_iload_n hx hb dX12_readsLetter_46 rfl (lv_at hl 0 rfl) ?_
    obtain ⟨rfl, rfl, rfl⟩ := sm_inj h
    exact gx_ri (post := gq_p r_1 σ_1 τ_1) (v := r_1) S hr hlk hw rfl dX12_readsLetter_47 ⟨rfl, rfl, rfl⟩
  · rw [if_neg c_2] at h
    refine lv_aload_n hx hb dX12_readsLetter_11 rfl (lv_at hl 1 rfl) ?_
    refine gx_getr (j := 213) S hK hw t_199 cl_13 22 (by decide) rfl mw_1436 rfl dX12_readsLetter_12 ?_
    refine lv_aload_n hx hb dX12_readsLetter_15 rfl (lv_at hl 1 rfl) ?_
    refine gx_get S hK hw t_199 cl_13 24 (by decide) rfl mw_1438 rfl dX12_readsLetter_16 ?_
    refine lv_iload_n hx hb dX12_readsLetter_19 rfl (lv_at hl 0 rfl) ?_
    obtain ⟨j_3, hj_3, hi_3, h⟩ := ck_some h
    refine gx_iast S hK gx_ok hw t_213 j_3 hj_3 hi_3 dX12_readsLetter_20 (fun H locs hw => ?_)
    obtain ⟨σ_4, e_4, h⟩ := nm_some h
    rw [← e_4] at hw
    refine lv_aload_n hx hb dX12_readsLetter_21 rfl (lv_at hl 1 rfl) ?_
    refine gx_getr (j := 214) S hK hw t_199 cl_13 23 (by decide) rfl mw_1437 rfl dX12_readsLetter_22 ?_
    refine lv_aload_n hx hb dX12_readsLetter_25 rfl (lv_at hl 1 rfl) ?_
    refine gx_get S hK hw t_199 cl_13 24 (by decide) rfl mw_1438 rfl dX12_readsLetter_26 ?_
    refine lv_aload_n hx hb dX12_readsLetter_29 rfl (lv_at hl 1 rfl) ?_
    refine gx_get S hK hw t_199 cl_13 14 (by decide) rfl mw_1428 rfl dX12_readsLetter_30 ?_
    refine lv_iconst (v := 1) hx hb dX12_readsLetter_33 (by decide) ?_
    refine lv_isub hx hb dX12_readsLetter_34 ?_
    obtain ⟨j_5, hj_5, hi_5, h⟩ := ck_some h
    refine gx_iast S hK gx_ok hw t_214 j_5 hj_5 hi_5 dX12_readsLetter_35 (fun H locs hw => ?_)
    obtain ⟨σ_6, e_6, h⟩ := nm_some h
    rw [← e_6] at hw
    refine lv_aload_n hx hb dX12_readsLetter_36 rfl (lv_at hl 1 rfl) ?_
    refine lv_dup hx hb dX12_readsLetter_37 rfl ?_
    refine gx_get S hK hw t_199 cl_13 24 (by decide) rfl mw_1438 rfl dX12_readsLetter_38 ?_
    refine lv_iconst (v := 1) hx hb dX12_readsLetter_41 (by decide) ?_
    refine lv_iadd hx hb dX12_readsLetter_42 ?_
    refine gx_put S hK gx_ok hw t_199 cl_13 24 (by decide) rfl mw_1438 rfl rfl (ty := .int) (v := (σ_6 199 24) + 1) (by decide +kernel) rfl rfl dX12_readsLetter_43 (fun H locs hw => ?_)
    obtain ⟨σ_7, e_7, h⟩ := nm_some h
    rw [← e_7] at hw
    refine lv_iload_n hx hb dX12_readsLetter_46 rfl (lv_at hl 0 rfl) ?_
    obtain ⟨rfl, rfl, rfl⟩ := sm_inj h
    exact gx_ri (post := gq_p r_1 σ_7 τ_1) (v := r_1) S hr hlk hw rfl dX12_readsLetter_47 ⟨rfl, rfl, rfl⟩
set_option maxHeartbeats 4000000 in
set_option maxRecDepth 100000 in
theorem c_X12_readsLetter (l : Launch) {E : gE} (N : Nat) (σ : gI) (τ : gJ) {r : Int32} {σ1 : gI} {τ1 : gJ} (h : B_X12_readsLetter_0 N σ τ = some (r, σ1, τ1)) : gx_Mi l yX12_readsLetter cX12_readsLetter 2 (some .int) 6 gx_tb E σ τ [.ref (E.2.2 + 199)] (gq_p r σ1 τ1) := by
  refine gx_bi (by decide +kernel) (Nat.le_of_ble_eq_true rfl) ?_
  intro P9 e9 s m9 below meth C9 S hr hlk hK hw ls hl
  have hl : lv_has ls 2 [(0, .ref (E.2.2 + 199))] := hl
  exact b_X12_readsLetter_0 l S hr hlk hK N σ τ h hw hl
/-! X12_readsRank -/
def B_X12_readsThing_0 (me_readsThing : gI → gJ → Option (Int32 × gI × gJ)) (me_readsRank : gI → gJ → Int32 → Option (Int32 × gI × gJ)) (N : Nat) (σ : gI) (τ : gJ) : Option (Int32 × gI × gJ) := bd (B_X12_takes_0 N σ τ 45) fun r_1 σ_1 τ_1 => if r_1 = 0 then (bd (B_X12_isDigit_0 N σ_1 τ_1) fun r_3 σ_3 τ_3 => if r_3 = 0 then (bd (B_X12_takesOf_0 N sb_15 σ_3 τ_3) fun r_5 σ_5 τ_5 => if r_5 < 0 then (if σ_5 199 16 = 4 then (some (0, σ_5, τ_5)) else (bd (B_X12_takes_0 N σ_5 τ_5 40) fun r_8 σ_8 τ_8 => if r_8 = 0 then (some (0, σ_8, τ_8)) else (nm (up2 σ_8 199 16 ((σ_8 199 16) + 1)) fun σ_10 => bd (me_readsRank σ_10 τ_8 0) fun r_11 σ_11 τ_11 => if r_11 = 0 then (some (0, σ_11, τ_11)) else (bd (B_X12_takes_0 N σ_11 τ_11 41) fun r_13 σ_13 τ_13 => if r_13 = 0 then (some (0, σ_13, τ_13)) else (nm (up2 σ_13 199 16 ((σ_13 199 16) - 1)) fun σ_15 => some (1, σ_15, τ_13)))))) else (bd (B_X12_codes_0 N σ_5 τ_5 (1000 + r_5)) fun _ σ_16 τ_16 => some (1, σ_16, τ_16))) else (bd (B_X12_numberOf_0 N σ_3 τ_3 3) fun r_17 σ_17 τ_17 => bd (B_X12_codes_0 N σ_17 τ_17 r_17) fun _ σ_18 τ_18 => some (1, σ_18, τ_18))) else (bd (me_readsThing σ_1 τ_1) fun r_19 σ_19 τ_19 => bd (B_X12_codes_0 N σ_19 τ_19 3000) fun _ σ_20 τ_20 => cb r_19 <| some (r_19, σ_20, τ_20))
def B_X12_readsRank_96 (me_readsThing : gI → gJ → Option (Int32 × gI × gJ)) (me_readsRank : gI → gJ → Int32 → Option (Int32 × gI × gJ)) (N : Nat) (rec_24 : gI → gJ → Int32 → Int32 → Option (Int32 × gI × gJ)) (σ : gI) (τ : gJ) (x1 : Int32) (y0 : Int32) (y1 : Int32) : Option (Int32 × gI × gJ) := bd (B_X12_codes_0 N σ τ (y1 + y0)) fun _ σ_1 τ_1 => if x1 ≤ 0 then (rec_24 σ_1 τ_1 x1 0) else (rec_24 σ_1 τ_1 x1 1)
def C_X12_readsRank_24 (me_readsThing : gI → gJ → Option (Int32 × gI × gJ)) (me_readsRank : gI → gJ → Int32 → Option (Int32 × gI × gJ)) (N : Nat) (rec_24 : gI → gJ → Int32 → Int32 → Option (Int32 × gI × gJ)) (σ : gI) (τ : gJ) (x1 : Int32) (x2 : Int32) : Option (Int32 × gI × gJ) := if x2 = 0 then (some (1, σ, τ)) else (if x1 = 0 then (bd (B_X12_takesOf_0 N sb_16 σ τ) fun r_16 σ_16 τ_16 => if 0 ≤ r_16 then (bd (me_readsRank σ_16 τ_16 (x1 + 1)) fun r_18 σ_18 τ_18 => if r_18 = 0 then (some (0, σ_18, τ_18)) else (if x1 = 0 then (B_X12_readsRank_96 me_readsThing me_readsRank N rec_24 σ_18 τ_18 x1 0 (2000 + r_16)) else (if x1 = 1 then (B_X12_readsRank_96 me_readsThing me_readsRank N rec_24 σ_18 τ_18 x1 3 (2000 + r_16)) else (B_X12_readsRank_96 me_readsThing me_readsRank N rec_24 σ_18 τ_18 x1 5 (2000 + r_16))))) else (some (1, σ_16, τ_16))) else (if x1 = 1 then (bd (B_X12_takesOf_0 N sb_17 σ τ) fun r_10 σ_10 τ_10 => if 0 ≤ r_10 then (bd (me_readsRank σ_10 τ_10 (x1 + 1)) fun r_12 σ_12 τ_12 => if r_12 = 0 then (some (0, σ_12, τ_12)) else (if x1 = 0 then (B_X12_readsRank_96 me_readsThing me_readsRank N rec_24 σ_12 τ_12 x1 0 (2000 + r_10)) else (if x1 = 1 then (B_X12_readsRank_96 me_readsThing me_readsRank N rec_24 σ_12 τ_12 x1 3 (2000 + r_10)) else (B_X12_readsRank_96 me_readsThing me_readsRank N rec_24 σ_12 τ_12 x1 5 (2000 + r_10))))) else (some (1, σ_10, τ_10))) else (bd (B_X12_takesOf_0 N sb_18 σ τ) fun r_4 σ_4 τ_4 => if 0 ≤ r_4 then (bd (me_readsRank σ_4 τ_4 (x1 + 1)) fun r_6 σ_6 τ_6 => if r_6 = 0 then (some (0, σ_6, τ_6)) else (if x1 = 0 then (B_X12_readsRank_96 me_readsThing me_readsRank N rec_24 σ_6 τ_6 x1 0 (2000 + r_4)) else (if x1 = 1 then (B_X12_readsRank_96 me_readsThing me_readsRank N rec_24 σ_6 τ_6 x1 3 (2000 + r_4)) else (B_X12_readsRank_96 me_readsThing me_readsRank N rec_24 σ_6 τ_6 x1 5 (2000 + r_4))))) else (some (1, σ_4, τ_4)))))
def H_X12_readsRank_24 (me_readsThing : gI → gJ → Option (Int32 × gI × gJ)) (me_readsRank : gI → gJ → Int32 → Option (Int32 × gI × gJ)) (N : Nat) : Nat → gI → gJ → Int32 → Int32 → Option (Int32 × gI × gJ) := itn (fun rec_24 => C_X12_readsRank_24 me_readsThing me_readsRank N rec_24) (fun _ _ _ _ => none)
def B_X12_readsRank_0 (me_readsThing : gI → gJ → Option (Int32 × gI × gJ)) (me_readsRank : gI → gJ → Int32 → Option (Int32 × gI × gJ)) (N : Nat) (σ : gI) (τ : gJ) (x1 : Int32) : Option (Int32 × gI × gJ) := if x1 = 3 then (bd (me_readsThing σ τ) fun r_4 σ_4 τ_4 => cb r_4 <| some (r_4, σ_4, τ_4)) else (bd (me_readsRank σ τ (x1 + 1)) fun r_2 σ_2 τ_2 => if r_2 = 0 then (some (0, σ_2, τ_2)) else (H_X12_readsRank_24 me_readsThing me_readsRank N N σ_2 τ_2 x1 1))
def R_X12_reads (N D : Nat) : (gI → gJ → Option (Int32 × gI × gJ)) × (gI → gJ → Int32 → Option (Int32 × gI × gJ)) := itn (fun p => (B_X12_readsThing_0 p.1 p.2 N, B_X12_readsRank_0 p.1 p.2 N)) (fun _ _ => none, fun _ _ _ => none) D
set_option maxHeartbeats 4000000 in
set_option maxRecDepth 100000 in
theorem b_X12_readsThing_0 (l : Launch) (dd : Nat) (me_readsThing : gI → gJ → Option (Int32 × gI × gJ)) (hme_readsThing : ∀ (σ : gI) (τ : gJ) (r : Int32) (σ1 : gI) (τ1 : gJ), me_readsThing σ τ = some (r, σ1, τ1) → gx_Mi l yX12_readsThing cX12_readsThing 2 (some .boolean) (dd) gx_tb E σ τ [.ref (E.2.2 + 199)] (gq_p r σ1 τ1)) (me_readsRank : gI → gJ → Int32 → Option (Int32 × gI × gJ)) (hme_readsRank : ∀ (σ : gI) (τ : gJ) (x1 : Int32) (r : Int32) (σ1 : gI) (τ1 : gJ), me_readsRank σ τ x1 = some (r, σ1, τ1) → gx_Mi l yX12_readsRank cX12_readsRank 4 (some .boolean) (dd) gx_tb E σ τ [.ref (E.2.2 + 199), .int x1] (gq_p r σ1 τ1)) (S : CallFix P9 m9 C9 cX12_readsThing 2 s av.toArray gx_G RX12) (hr : meth.sig.returnType = (some .boolean)) (hlk : meth.locks = false) (hK : gx_K E s) (N : Nat) (σ : gI) (τ : gJ) {r : Int32} {σ1 : gI} {τ1 : gJ} (h : B_X12_readsThing_0 me_readsThing me_readsRank N σ τ = some (r, σ1, τ1)) {H : Heap} {locs : List Loc} {ls : Array Slot} (hw : gx_W gx_tb gx_tb.length E s σ τ H locs) (hl : lv_has ls 2 [(0, .ref (E.2.2 + 199))]) : W P9 l e9 (gx_rm (dd + 6)) s m9 av.toArray below meth C9 H locs 0 0 (gq_Qi below av s E r σ1 τ1) (F0 m9 0 ls []) := by
  have hx := S.1
  have hb := S.2.1
  unfold B_X12_readsThing_0 at h
  refine lv_aload_n hx hb dX12_readsThing_0 rfl (lv_at hl 0 rfl) ?_
  refine lv_bipush (v := 45) hx hb dX12_readsThing_1 (by decide) ?_
  obtain ⟨r_1, σ_1, τ_1, q_1, h⟩ := bd_some h
  refine gx_cVi (As := [.int 45]) (rest := []) S hK gx_ok hw (c_X12_takes l (E := E) N σ τ 45 q_1) cw_X12_210 t_199 cl_13 (gw_ok (by omega) (by omega)) rfl hl.1 rfl (Nat.le_of_ble_eq_true rfl) ⟨Nat.le_of_ble_eq_true rfl, Nat.le_of_ble_eq_true rfl⟩ dX12_readsThing_3 (fun r9 σ9 τ9 H locs hp hw => ?_)
  obtain ⟨rfl, rfl, rfl⟩ := hp
  refine lv_if_eq (tgt := 23) hx hb dX12_readsThing_6 (by decide) (fun c_2 => ?_) (fun c_2 => ?_)
  · rw [if_pos c_2] at h
    refine lv_aload_n hx hb dX12_readsThing_23 rfl (lv_at hl 0 rfl) ?_
    obtain ⟨r_3, σ_3, τ_3, q_3, h⟩ := bd_some h
    refine gx_cVi (As := []) (rest := []) S hK gx_ok hw (c_X12_isDigit l (E := E) N σ_1 τ_1 q_3) cw_X12_177 t_199 cl_13 (gw_ok (by omega) (by omega)) rfl hl.1 rfl (Nat.le_of_ble_eq_true rfl) ⟨Nat.le_of_ble_eq_true rfl, Nat.le_of_ble_eq_true rfl⟩ dX12_readsThing_24 (fun r9 σ9 τ9 H locs hp hw => ?_)
    obtain ⟨rfl, rfl, rfl⟩ := hp
    refine lv_if_eq (tgt := 41) hx hb dX12_readsThing_27 (by decide) (fun c_4 => ?_) (fun c_4 => ?_)
    · rw [if_pos c_4] at h
      refine lv_aload_n hx hb dX12_readsThing_41 rfl (lv_at hl 0 rfl) ?_
      refine gx_lds S hK ss_15 rfl dX12_readsThing_42 ?_
      obtain ⟨r_5, σ_5, τ_5, q_5, h⟩ := bd_some h
      refine zs_V (As := [.ref (E.1.2.1 15)]) (rest := []) S hK hw (zs_k hK hw zk_15) (c_X12_takesOf l (E := E) N sb_15 σ_3 τ_3 q_5) rfl cw_X12_183 (va_recv hK.1 hw.1 cl_13.1 (gx_at t_199)) (gw_ok (by omega) (by omega)) rfl hl.1 rfl (Nat.le_of_ble_eq_true rfl) ⟨Nat.le_of_ble_eq_true rfl, Nat.le_of_ble_eq_true rfl⟩ dX12_readsThing_44 (fun r9 σ9 τ9 H locs hp hw => ?_)
      obtain ⟨rfl, rfl, rfl⟩ := hp
      refine lv_istore_n (lv' := [(1, .int r_5), (0, .ref (E.2.2 + 199))]) hx hb dX12_readsThing_47 rfl hl (by decide) rfl (fun ls hl => ?_)
      refine lv_iload_n hx hb dX12_readsThing_48 rfl (lv_at hl 0 rfl) ?_
      refine lv_if_lt (tgt := 63) hx hb dX12_readsThing_49 (by decide) (fun c_6 => ?_) (fun c_6 => ?_)
      · rw [if_pos c_6] at h
        refine lv_aload_n hx hb dX12_readsThing_63 rfl (lv_at hl 1 rfl) ?_
        refine gx_get S hK hw t_199 cl_13 16 (by decide) rfl mw_1430 rfl dX12_readsThing_64 ?_
        refine lv_iconst (v := 4) hx hb dX12_readsThing_67 (by decide) ?_
        refine lv_icmp_eq (tgt := 80) hx hb dX12_readsThing_68 (by decide) (fun c_7 => ?_) (fun c_7 => ?_)
        · rw [if_pos c_7] at h
          refine lv_iconst (v := 0) hx hb dX12_readsThing_80 (by decide) ?_
          obtain ⟨rfl, rfl, rfl⟩ := sm_inj h
          exact gx_ri (post := gq_p 0 σ_5 τ_5) (v := 0) S hr hlk hw rfl dX12_readsThing_81 ⟨rfl, rfl, rfl⟩
        · rw [if_neg c_7] at h
          refine lv_aload_n hx hb dX12_readsThing_71 rfl (lv_at hl 1 rfl) ?_
          refine lv_bipush (v := 40) hx hb dX12_readsThing_72 (by decide) ?_
          obtain ⟨r_8, σ_8, τ_8, q_8, h⟩ := bd_some h
          refine gx_cVi (As := [.int 40]) (rest := []) S hK gx_ok hw (c_X12_takes l (E := E) N σ_5 τ_5 40 q_8) cw_X12_210 t_199 cl_13 (gw_ok (by omega) (by omega)) rfl hl.1 rfl (Nat.le_of_ble_eq_true rfl) ⟨Nat.le_of_ble_eq_true rfl, Nat.le_of_ble_eq_true rfl⟩ dX12_readsThing_74 (fun r9 σ9 τ9 H locs hp hw => ?_)
          obtain ⟨rfl, rfl, rfl⟩ := hp
          refine lv_if_ne (tgt := 82) hx hb dX12_readsThing_77 (by decide) (fun c_9 => ?_) (fun c_9 => ?_)
          · rw [if_neg c_9] at h
            refine lv_aload_n hx hb dX12_readsThing_82 rfl (lv_at hl 1 rfl) ?_
            refine lv_dup hx hb dX12_readsThing_83 rfl ?_
            refine gx_get S hK hw t_199 cl_13 16 (by decide) rfl mw_1430 rfl dX12_readsThing_84 ?_
            refine lv_iconst (v := 1) hx hb dX12_readsThing_87 (by decide) ?_
            refine lv_iadd hx hb dX12_readsThing_88 ?_
            refine gx_put S hK gx_ok hw t_199 cl_13 16 (by decide) rfl mw_1430 rfl rfl (ty := .int) (v := (σ_8 199 16) + 1) (by decide +kernel) rfl rfl dX12_readsThing_89 (fun H locs hw => ?_)
            obtain ⟨σ_10, e_10, h⟩ := nm_some h
            rw [← e_10] at hw
            refine lv_aload_n hx hb dX12_readsThing_92 rfl (lv_at hl 1 rfl) ?_
            refine lv_iconst (v := 0) hx hb dX12_readsThing_93 (by decide) ?_
            obtain ⟨r_11, σ_11, τ_11, q_11, h⟩ := bd_some h
            refine gx_cVi (As := [.int 0]) (rest := []) S hK gx_ok hw (hme_readsRank σ_10 τ_8 0 _ _ _ q_11) cw_X12_243 t_199 cl_13 (gw_ok (by omega) (by omega)) rfl hl.1 rfl (Nat.le_of_ble_eq_true rfl) ⟨Nat.le_of_ble_eq_true rfl, Nat.le_of_ble_eq_true rfl⟩ dX12_readsThing_94 (fun r9 σ9 τ9 H locs hp hw => ?_)
            obtain ⟨rfl, rfl, rfl⟩ := hp
            refine lv_if_eq (tgt := 109) hx hb dX12_readsThing_97 (by decide) (fun c_12 => ?_) (fun c_12 => ?_)
            · rw [if_pos c_12] at h
              refine lv_iconst (v := 0) hx hb dX12_readsThing_109 (by decide) ?_
              obtain ⟨rfl, rfl, rfl⟩ := sm_inj h
              exact gx_ri (post := gq_p 0 σ_11 τ_11) (v := 0) S hr hlk hw rfl dX12_readsThing_110 ⟨rfl, rfl, rfl⟩
            · rw [if_neg c_12] at h
              refine lv_aload_n hx hb dX12_readsThing_100 rfl (lv_at hl 1 rfl) ?_
              refine lv_bipush (v := 41) hx hb dX12_readsThing_101 (by decide) ?_
              obtain ⟨r_13, σ_13, τ_13, q_13, h⟩ := bd_some h
              refine gx_cVi (As := [.int 41]) (rest := []) S hK gx_ok hw (c_X12_takes l (E := E) N σ_11 τ_11 41 q_13) cw_X12_210 t_199 cl_13 (gw_ok (by omega) (by omega)) rfl hl.1 rfl (Nat.le_of_ble_eq_true rfl) ⟨Nat.le_of_ble_eq_true rfl, Nat.le_of_ble_eq_true rfl⟩ dX12_readsThing_103 (fun r9 σ9 τ9 H locs hp hw => ?_)
              obtain ⟨rfl, rfl, rfl⟩ := hp
              refine lv_if_ne (tgt := 111) hx hb dX12_readsThing_106 (by decide) (fun c_14 => ?_) (fun c_14 => ?_)
              · rw [if_neg c_14] at h
                refine lv_aload_n hx hb dX12_readsThing_111 rfl (lv_at hl 1 rfl) ?_
                refine lv_dup hx hb dX12_readsThing_112 rfl ?_
                refine gx_get S hK hw t_199 cl_13 16 (by decide) rfl mw_1430 rfl dX12_readsThing_113 ?_
                refine lv_iconst (v := 1) hx hb dX12_readsThing_116 (by decide) ?_
                refine lv_isub hx hb dX12_readsThing_117 ?_
                refine gx_put S hK gx_ok hw t_199 cl_13 16 (by decide) rfl mw_1430 rfl rfl (ty := .int) (v := (σ_13 199 16) - 1) (by decide +kernel) rfl rfl dX12_readsThing_118 (fun H locs hw => ?_)
                obtain ⟨σ_15, e_15, h⟩ := nm_some h
                rw [← e_15] at hw
                refine lv_iconst (v := 1) hx hb dX12_readsThing_121 (by decide) ?_
                obtain ⟨rfl, rfl, rfl⟩ := sm_inj h
                exact gx_ri (post := gq_p 1 σ_15 τ_13) (v := 1) S hr hlk hw rfl dX12_readsThing_122 ⟨rfl, rfl, rfl⟩
              · rw [if_pos c_14] at h
                refine lv_iconst (v := 0) hx hb dX12_readsThing_109 (by decide) ?_
                obtain ⟨rfl, rfl, rfl⟩ := sm_inj h
                exact gx_ri (post := gq_p 0 σ_13 τ_13) (v := 0) S hr hlk hw rfl dX12_readsThing_110 ⟨rfl, rfl, rfl⟩
          · rw [if_pos c_9] at h
            refine lv_iconst (v := 0) hx hb dX12_readsThing_80 (by decide) ?_
            obtain ⟨rfl, rfl, rfl⟩ := sm_inj h
            exact gx_ri (post := gq_p 0 σ_8 τ_8) (v := 0) S hr hlk hw rfl dX12_readsThing_81 ⟨rfl, rfl, rfl⟩
      · rw [if_neg c_6] at h
        refine lv_aload_n hx hb dX12_readsThing_52 rfl (lv_at hl 1 rfl) ?_
        refine lv_sipush (v := 1000) hx hb dX12_readsThing_53 (by decide) ?_
        refine lv_iload_n hx hb dX12_readsThing_56 rfl (lv_at hl 0 rfl) ?_
        refine lv_iadd hx hb dX12_readsThing_57 ?_
        obtain ⟨u_16, σ_16, τ_16, q_16, h⟩ := bd_some h
        refine gx_cVv (As := [.int (1000 + r_5)]) (rest := []) S hK gx_ok hw (c_X12_codes l (E := E) N σ_5 τ_5 (1000 + r_5) q_16) cw_X12_234 t_199 cl_13 (gw_ok (by omega) (by omega)) rfl hl.1 rfl (Nat.le_of_ble_eq_true rfl) ⟨Nat.le_of_ble_eq_true rfl, Nat.le_of_ble_eq_true rfl⟩ dX12_readsThing_58 (fun σ9 τ9 H locs hp hw => ?_)
        obtain ⟨rfl, rfl⟩ := hp
        refine lv_iconst (v := 1) hx hb dX12_readsThing_61 (by decide) ?_
        obtain ⟨rfl, rfl, rfl⟩ := sm_inj h
        exact gx_ri (post := gq_p 1 σ_16 τ_16) (v := 1) S hr hlk hw rfl dX12_readsThing_62 ⟨rfl, rfl, rfl⟩
    · rw [if_neg c_4] at h
      refine lv_aload_n hx hb dX12_readsThing_30 rfl (lv_at hl 0 rfl) ?_
      refine lv_aload_n hx hb dX12_readsThing_31 rfl (lv_at hl 0 rfl) ?_
      refine lv_iconst (v := 3) hx hb dX12_readsThing_32 (by decide) ?_
      obtain ⟨r_17, σ_17, τ_17, q_17, h⟩ := bd_some h
      refine gx_cVi (As := [.int 3]) (rest := [.ref (E.2.2 + 199)]) S hK gx_ok hw (c_X12_numberOf l (E := E) N σ_3 τ_3 3 q_17) cw_X12_238 t_199 cl_13 (gw_ok (by omega) (by omega)) rfl hl.1 rfl (Nat.le_of_ble_eq_true rfl) ⟨Nat.le_of_ble_eq_true rfl, Nat.le_of_ble_eq_true rfl⟩ dX12_readsThing_33 (fun r9 σ9 τ9 H locs hp hw => ?_)
      obtain ⟨rfl, rfl, rfl⟩ := hp
      obtain ⟨u_18, σ_18, τ_18, q_18, h⟩ := bd_some h
      refine gx_cVv (As := [.int r_17]) (rest := []) S hK gx_ok hw (c_X12_codes l (E := E) N σ_17 τ_17 r_17 q_18) cw_X12_234 t_199 cl_13 (gw_ok (by omega) (by omega)) rfl hl.1 rfl (Nat.le_of_ble_eq_true rfl) ⟨Nat.le_of_ble_eq_true rfl, Nat.le_of_ble_eq_true rfl⟩ dX12_readsThing_36 (fun σ9 τ9 H locs hp hw => ?_)
      obtain ⟨rfl, rfl⟩ := hp
      refine lv_iconst (v := 1) hx hb dX12_readsThing_39 (by decide) ?_
      obtain ⟨rfl, rfl, rfl⟩ := sm_inj h
      exact gx_ri (post := gq_p 1 σ_18 τ_18) (v := 1) S hr hlk hw rfl dX12_readsThing_40 ⟨rfl, rfl, rfl⟩
  · rw [if_neg c_2] at h
    refine lv_aload_n hx hb dX12_readsThing_9 rfl (lv_at hl 0 rfl) ?_
    obtain ⟨r_19, σ_19, τ_19, q_19, h⟩ := bd_some h
    refine gx_cVi (As := []) (rest := []) S hK gx_ok hw (hme_readsThing σ_1 τ_1 _ _ _ q_19) cw_X12_231 t_199 cl_13 (gw_ok (by omega) (by omega)) rfl hl.1 rfl (Nat.le_of_ble_eq_true rfl) ⟨Nat.le_of_ble_eq_true rfl, Nat.le_of_ble_eq_true rfl⟩ dX12_readsThing_10 (fun r9 σ9 τ9 H locs hp hw => ?_)
    obtain ⟨rfl, rfl, rfl⟩ := hp
    refine lv_istore_n (lv' := [(1, .int r_19), (0, .ref (E.2.2 + 199))]) hx hb dX12_readsThing_13 rfl hl (by decide) rfl (fun ls hl => ?_)
    refine lv_aload_n hx hb dX12_readsThing_14 rfl (lv_at hl 1 rfl) ?_
    refine lv_sipush (v := 3000) hx hb dX12_readsThing_15 (by decide) ?_
    obtain ⟨u_20, σ_20, τ_20, q_20, h⟩ := bd_some h
    refine gx_cVv (As := [.int 3000]) (rest := []) S hK gx_ok hw (c_X12_codes l (E := E) N σ_19 τ_19 3000 q_20) cw_X12_234 t_199 cl_13 (gw_ok (by omega) (by omega)) rfl hl.1 rfl (Nat.le_of_ble_eq_true rfl) ⟨Nat.le_of_ble_eq_true rfl, Nat.le_of_ble_eq_true rfl⟩ dX12_readsThing_18 (fun σ9 τ9 H locs hp hw => ?_)
    obtain ⟨rfl, rfl⟩ := hp
    refine lv_iload_n hx hb dX12_readsThing_21 rfl (lv_at hl 0 rfl) ?_
    obtain ⟨hq_21, h⟩ := cb_some h
    obtain ⟨rfl, rfl, rfl⟩ := sm_inj h
    exact gx_ri (post := gq_p r_19 σ_20 τ_20) (v := r_19) S hr hlk hw (cb_nar hq_21) dX12_readsThing_22 ⟨rfl, rfl, rfl⟩
set_option maxHeartbeats 4000000 in
set_option maxRecDepth 100000 in
theorem b_X12_readsRank_96 (l : Launch) (dd : Nat) (me_readsThing : gI → gJ → Option (Int32 × gI × gJ)) (hme_readsThing : ∀ (σ : gI) (τ : gJ) (r : Int32) (σ1 : gI) (τ1 : gJ), me_readsThing σ τ = some (r, σ1, τ1) → gx_Mi l yX12_readsThing cX12_readsThing 2 (some .boolean) (dd) gx_tb E σ τ [.ref (E.2.2 + 199)] (gq_p r σ1 τ1)) (me_readsRank : gI → gJ → Int32 → Option (Int32 × gI × gJ)) (hme_readsRank : ∀ (σ : gI) (τ : gJ) (x1 : Int32) (r : Int32) (σ1 : gI) (τ1 : gJ), me_readsRank σ τ x1 = some (r, σ1, τ1) → gx_Mi l yX12_readsRank cX12_readsRank 4 (some .boolean) (dd) gx_tb E σ τ [.ref (E.2.2 + 199), .int x1] (gq_p r σ1 τ1)) (S : CallFix P9 m9 C9 cX12_readsRank 4 s av.toArray gx_G RX12) (hr : meth.sig.returnType = (some .boolean)) (hlk : meth.locks = false) (hK : gx_K E s) (N : Nat) (rec_24 : gI → gJ → Int32 → Int32 → Option (Int32 × gI × gJ)) (hrec_24 : ∀ (σ : gI) (τ : gJ) (x1 : Int32) (x2 : Int32) (r : Int32) (σ1 : gI) (τ1 : gJ) (H : Heap) (locs : List Loc) (ls : Array Slot), rec_24 σ τ x1 x2 = some (r, σ1, τ1) → gx_W gx_tb gx_tb.length E s σ τ H locs → lv_has ls 4 [(0, .ref (E.2.2 + 199)), (1, .int x1), (2, .int x2)] → W P9 l e9 (gx_rm (dd + 6)) s m9 av.toArray below meth C9 H locs 0 0 (gq_Qi below av s E r σ1 τ1) (F0 m9 24 ls [])) (σ : gI) (τ : gJ) (x1 : Int32) (y0 : Int32) (y1 : Int32) {r : Int32} {σ1 : gI} {τ1 : gJ} (h : B_X12_readsRank_96 me_readsThing me_readsRank N rec_24 σ τ x1 y0 y1 = some (r, σ1, τ1)) {H : Heap} {locs : List Loc} {ls : Array Slot} (hw : gx_W gx_tb gx_tb.length E s σ τ H locs) (hl : lv_has ls 4 [(0, .ref (E.2.2 + 199)), (1, .int x1)]) : W P9 l e9 (gx_rm (dd + 6)) s m9 av.toArray below meth C9 H locs 0 0 (gq_Qi below av s E r σ1 τ1) (F0 m9 96 ls [.int y0, .int y1, .ref (E.2.2 + 199)]) := by
  have hx := S.1
  have hb := S.2.1
  unfold B_X12_readsRank_96 at h
  refine lv_iadd hx hb dX12_readsRank_96 ?_
  obtain ⟨u_1, σ_1, τ_1, q_1, h⟩ := bd_some h
  refine gx_cVv (As := [.int (y1 + y0)]) (rest := []) S hK gx_ok hw (c_X12_codes l (E := E) N σ τ (y1 + y0) q_1) cw_X12_234 t_199 cl_13 (gw_ok (by omega) (by omega)) rfl hl.1 rfl (Nat.le_of_ble_eq_true rfl) ⟨Nat.le_of_ble_eq_true rfl, Nat.le_of_ble_eq_true rfl⟩ dX12_readsRank_97 (fun σ9 τ9 H locs hp hw => ?_)
  obtain ⟨rfl, rfl⟩ := hp
  refine lv_iload_n hx hb dX12_readsRank_100 rfl (lv_at hl 1 rfl) ?_
  refine lv_if_le (tgt := 108) hx hb dX12_readsRank_101 (by decide) (fun c_2 => ?_) (fun c_2 => ?_)
  · rw [if_pos c_2] at h
    refine lv_iconst (v := 0) hx hb dX12_readsRank_108 (by decide) ?_
    refine lv_istore_n (lv' := [(2, .int 0), (0, .ref (E.2.2 + 199)), (1, .int x1)]) hx hb dX12_readsRank_109 rfl hl (by decide) rfl (fun ls hl => ?_)
    refine lv_goto (tgt := 24) hx hb dX12_readsRank_110 (by decide) ?_
    exact hrec_24 σ_1 τ_1 x1 0 _ _ _ _ _ _ h hw (lv_sub hl [1, 2, 0] rfl)
  · rw [if_neg c_2] at h
    refine lv_iconst (v := 1) hx hb dX12_readsRank_104 (by decide) ?_
    refine lv_goto (tgt := 109) hx hb dX12_readsRank_105 (by decide) ?_
    refine lv_istore_n (lv' := [(2, .int 1), (0, .ref (E.2.2 + 199)), (1, .int x1)]) hx hb dX12_readsRank_109 rfl hl (by decide) rfl (fun ls hl => ?_)
    refine lv_goto (tgt := 24) hx hb dX12_readsRank_110 (by decide) ?_
    exact hrec_24 σ_1 τ_1 x1 1 _ _ _ _ _ _ h hw (lv_sub hl [1, 2, 0] rfl)
set_option maxHeartbeats 4000000 in
set_option maxRecDepth 100000 in
theorem k_X12_readsRank_24 (l : Launch) (dd : Nat) (me_readsThing : gI → gJ → Option (Int32 × gI × gJ)) (hme_readsThing : ∀ (σ : gI) (τ : gJ) (r : Int32) (σ1 : gI) (τ1 : gJ), me_readsThing σ τ = some (r, σ1, τ1) → gx_Mi l yX12_readsThing cX12_readsThing 2 (some .boolean) (dd) gx_tb E σ τ [.ref (E.2.2 + 199)] (gq_p r σ1 τ1)) (me_readsRank : gI → gJ → Int32 → Option (Int32 × gI × gJ)) (hme_readsRank : ∀ (σ : gI) (τ : gJ) (x1 : Int32) (r : Int32) (σ1 : gI) (τ1 : gJ), me_readsRank σ τ x1 = some (r, σ1, τ1) → gx_Mi l yX12_readsRank cX12_readsRank 4 (some .boolean) (dd) gx_tb E σ τ [.ref (E.2.2 + 199), .int x1] (gq_p r σ1 τ1)) (S : CallFix P9 m9 C9 cX12_readsRank 4 s av.toArray gx_G RX12) (hr : meth.sig.returnType = (some .boolean)) (hlk : meth.locks = false) (hK : gx_K E s) (N : Nat) (rec_24 : gI → gJ → Int32 → Int32 → Option (Int32 × gI × gJ)) (hrec_24 : ∀ (σ : gI) (τ : gJ) (x1 : Int32) (x2 : Int32) (r : Int32) (σ1 : gI) (τ1 : gJ) (H : Heap) (locs : List Loc) (ls : Array Slot), rec_24 σ τ x1 x2 = some (r, σ1, τ1) → gx_W gx_tb gx_tb.length E s σ τ H locs → lv_has ls 4 [(0, .ref (E.2.2 + 199)), (1, .int x1), (2, .int x2)] → W P9 l e9 (gx_rm (dd + 6)) s m9 av.toArray below meth C9 H locs 0 0 (gq_Qi below av s E r σ1 τ1) (F0 m9 24 ls [])) (σ : gI) (τ : gJ) (x1 : Int32) (x2 : Int32) {r : Int32} {σ1 : gI} {τ1 : gJ} (h : C_X12_readsRank_24 me_readsThing me_readsRank N rec_24 σ τ x1 x2 = some (r, σ1, τ1)) {H : Heap} {locs : List Loc} {ls : Array Slot} (hw : gx_W gx_tb gx_tb.length E s σ τ H locs) (hl : lv_has ls 4 [(0, .ref (E.2.2 + 199)), (1, .int x1), (2, .int x2)]) : W P9 l e9 (gx_rm (dd + 6)) s m9 av.toArray below meth C9 H locs 0 0 (gq_Qi below av s E r σ1 τ1) (F0 m9 24 ls []) := by
  have hx := S.1
  have hb := S.2.1
  unfold C_X12_readsRank_24 at h
  refine lv_iload_n hx hb dX12_readsRank_24 rfl (lv_at hl 2 rfl) ?_
  refine lv_if_eq (tgt := 113) hx hb dX12_readsRank_25 (by decide) (fun c_1 => ?_) (fun c_1 => ?_)
  · rw [if_pos c_1] at h
    refine lv_iconst (v := 1) hx hb dX12_readsRank_113 (by decide) ?_
    obtain ⟨rfl, rfl, rfl⟩ := sm_inj h
    exact gx_ri (post := gq_p 1 σ τ) (v := 1) S hr hlk hw rfl dX12_readsRank_114 ⟨rfl, rfl, rfl⟩
  · rw [if_neg c_1] at h
    refine lv_aload_n hx hb dX12_readsRank_28 rfl (lv_at hl 0 rfl) ?_
    refine lv_iload_n hx hb dX12_readsRank_29 rfl (lv_at hl 1 rfl) ?_
    refine lv_if_ne (tgt := 38) hx hb dX12_readsRank_30 (by decide) (fun c_2 => ?_) (fun c_2 => ?_)
    · rw [if_neg c_2] at h
      refine lv_iload_n hx hb dX12_readsRank_38 rfl (lv_at hl 1 rfl) ?_
      refine lv_iconst (v := 1) hx hb dX12_readsRank_39 (by decide) ?_
      refine lv_icmp_ne (tgt := 48) hx hb dX12_readsRank_40 (by decide) (fun c_3 => ?_) (fun c_3 => ?_)
      · rw [if_neg c_3] at h
        refine gx_lds S hK ss_18 rfl dX12_readsRank_48 ?_
        obtain ⟨r_4, σ_4, τ_4, q_4, h⟩ := bd_some h
        refine zs_V (As := [.ref (E.1.2.1 18)]) (rest := []) S hK hw (zs_k hK hw zk_18) (c_X12_takesOf l (E := E) N sb_18 σ τ q_4) rfl cw_X12_183 (va_recv hK.1 hw.1 cl_13.1 (gx_at t_199)) (gw_ok (by omega) (by omega)) rfl hl.1 rfl (Nat.le_of_ble_eq_true rfl) ⟨Nat.le_of_ble_eq_true rfl, Nat.le_of_ble_eq_true rfl⟩ dX12_readsRank_50 (fun r9 σ9 τ9 H locs hp hw => ?_)
        obtain ⟨rfl, rfl, rfl⟩ := hp
        refine lv_istore_n (lv' := [(3, .int r_4), (0, .ref (E.2.2 + 199)), (1, .int x1), (2, .int x2)]) hx hb dX12_readsRank_53 rfl hl (by decide) rfl (fun ls hl => ?_)
        refine lv_iload_n hx hb dX12_readsRank_54 rfl (lv_at hl 0 rfl) ?_
        refine lv_if_ge (tgt := 60) hx hb dX12_readsRank_55 (by decide) (fun c_5 => ?_) (fun c_5 => ?_)
        · rw [if_pos c_5] at h
          refine lv_aload_n hx hb dX12_readsRank_60 rfl (lv_at hl 1 rfl) ?_
          refine lv_iload_n hx hb dX12_readsRank_61 rfl (lv_at hl 2 rfl) ?_
          refine lv_iconst (v := 1) hx hb dX12_readsRank_62 (by decide) ?_
          refine lv_iadd hx hb dX12_readsRank_63 ?_
          obtain ⟨r_6, σ_6, τ_6, q_6, h⟩ := bd_some h
          refine gx_cVi (As := [.int (x1 + 1)]) (rest := []) S hK gx_ok hw (hme_readsRank σ_4 τ_4 (x1 + 1) _ _ _ q_6) cw_X12_243 t_199 cl_13 (gw_ok (by omega) (by omega)) rfl hl.1 rfl (Nat.le_of_ble_eq_true rfl) ⟨Nat.le_of_ble_eq_true rfl, Nat.le_of_ble_eq_true rfl⟩ dX12_readsRank_64 (fun r9 σ9 τ9 H locs hp hw => ?_)
          obtain ⟨rfl, rfl, rfl⟩ := hp
          refine lv_if_ne (tgt := 72) hx hb dX12_readsRank_67 (by decide) (fun c_7 => ?_) (fun c_7 => ?_)
          · rw [if_neg c_7] at h
            refine lv_aload_n hx hb dX12_readsRank_72 rfl (lv_at hl 1 rfl) ?_
            refine lv_sipush (v := 2000) hx hb dX12_readsRank_73 (by decide) ?_
            refine lv_iload_n hx hb dX12_readsRank_76 rfl (lv_at hl 0 rfl) ?_
            refine lv_iadd hx hb dX12_readsRank_77 ?_
            refine lv_iload_n hx hb dX12_readsRank_78 rfl (lv_at hl 2 rfl) ?_
            refine lv_if_ne (tgt := 86) hx hb dX12_readsRank_79 (by decide) (fun c_8 => ?_) (fun c_8 => ?_)
            · rw [if_neg c_8] at h
              refine lv_iload_n hx hb dX12_readsRank_86 rfl (lv_at hl 2 rfl) ?_
              refine lv_iconst (v := 1) hx hb dX12_readsRank_87 (by decide) ?_
              refine lv_icmp_ne (tgt := 95) hx hb dX12_readsRank_88 (by decide) (fun c_9 => ?_) (fun c_9 => ?_)
              · rw [if_neg c_9] at h
                refine lv_iconst (v := 5) hx hb dX12_readsRank_95 (by decide) ?_
                exact b_X12_readsRank_96 l dd me_readsThing hme_readsThing me_readsRank hme_readsRank S hr hlk hK N rec_24 hrec_24 σ_6 τ_6 x1 5 (2000 + r_4) h hw (lv_sub hl [1, 2] rfl)
              · rw [if_pos c_9] at h
                refine lv_iconst (v := 3) hx hb dX12_readsRank_91 (by decide) ?_
                refine lv_goto (tgt := 96) hx hb dX12_readsRank_92 (by decide) ?_
                exact b_X12_readsRank_96 l dd me_readsThing hme_readsThing me_readsRank hme_readsRank S hr hlk hK N rec_24 hrec_24 σ_6 τ_6 x1 3 (2000 + r_4) h hw (lv_sub hl [1, 2] rfl)
            · rw [if_pos c_8] at h
              refine lv_iconst (v := 0) hx hb dX12_readsRank_82 (by decide) ?_
              refine lv_goto (tgt := 96) hx hb dX12_readsRank_83 (by decide) ?_
              exact b_X12_readsRank_96 l dd me_readsThing hme_readsThing me_readsRank hme_readsRank S hr hlk hK N rec_24 hrec_24 σ_6 τ_6 x1 0 (2000 + r_4) h hw (lv_sub hl [1, 2] rfl)
          · rw [if_pos c_7] at h
            refine lv_iconst (v := 0) hx hb dX12_readsRank_70 (by decide) ?_
            obtain ⟨rfl, rfl, rfl⟩ := sm_inj h
            exact gx_ri (post := gq_p 0 σ_6 τ_6) (v := 0) S hr hlk hw rfl dX12_readsRank_71 ⟨rfl, rfl, rfl⟩
        · rw [if_neg c_5] at h
          refine lv_iconst (v := 1) hx hb dX12_readsRank_58 (by decide) ?_
          obtain ⟨rfl, rfl, rfl⟩ := sm_inj h
          exact gx_ri (post := gq_p 1 σ_4 τ_4) (v := 1) S hr hlk hw rfl dX12_readsRank_59 ⟨rfl, rfl, rfl⟩
      · rw [if_pos c_3] at h
        refine gx_lds S hK ss_17 rfl dX12_readsRank_43 ?_
        refine lv_goto (tgt := 50) hx hb dX12_readsRank_45 (by decide) ?_
        obtain ⟨r_10, σ_10, τ_10, q_10, h⟩ := bd_some h
        refine zs_V (As := [.ref (E.1.2.1 17)]) (rest := []) S hK hw (zs_k hK hw zk_17) (c_X12_takesOf l (E := E) N sb_17 σ τ q_10) rfl cw_X12_183 (va_recv hK.1 hw.1 cl_13.1 (gx_at t_199)) (gw_ok (by omega) (by omega)) rfl hl.1 rfl (Nat.le_of_ble_eq_true rfl) ⟨Nat.le_of_ble_eq_true rfl, Nat.le_of_ble_eq_true rfl⟩ dX12_readsRank_50 (fun r9 σ9 τ9 H locs hp hw => ?_)
        obtain ⟨rfl, rfl, rfl⟩ := hp
        refine lv_istore_n (lv' := [(3, .int r_10), (0, .ref (E.2.2 + 199)), (1, .int x1), (2, .int x2)]) hx hb dX12_readsRank_53 rfl hl (by decide) rfl (fun ls hl => ?_)
        refine lv_iload_n hx hb dX12_readsRank_54 rfl (lv_at hl 0 rfl) ?_
        refine lv_if_ge (tgt := 60) hx hb dX12_readsRank_55 (by decide) (fun c_11 => ?_) (fun c_11 => ?_)
        · rw [if_pos c_11] at h
          refine lv_aload_n hx hb dX12_readsRank_60 rfl (lv_at hl 1 rfl) ?_
          refine lv_iload_n hx hb dX12_readsRank_61 rfl (lv_at hl 2 rfl) ?_
          refine lv_iconst (v := 1) hx hb dX12_readsRank_62 (by decide) ?_
          refine lv_iadd hx hb dX12_readsRank_63 ?_
          obtain ⟨r_12, σ_12, τ_12, q_12, h⟩ := bd_some h
          refine gx_cVi (As := [.int (x1 + 1)]) (rest := []) S hK gx_ok hw (hme_readsRank σ_10 τ_10 (x1 + 1) _ _ _ q_12) cw_X12_243 t_199 cl_13 (gw_ok (by omega) (by omega)) rfl hl.1 rfl (Nat.le_of_ble_eq_true rfl) ⟨Nat.le_of_ble_eq_true rfl, Nat.le_of_ble_eq_true rfl⟩ dX12_readsRank_64 (fun r9 σ9 τ9 H locs hp hw => ?_)
          obtain ⟨rfl, rfl, rfl⟩ := hp
          refine lv_if_ne (tgt := 72) hx hb dX12_readsRank_67 (by decide) (fun c_13 => ?_) (fun c_13 => ?_)
          · rw [if_neg c_13] at h
            refine lv_aload_n hx hb dX12_readsRank_72 rfl (lv_at hl 1 rfl) ?_
            refine lv_sipush (v := 2000) hx hb dX12_readsRank_73 (by decide) ?_
            refine lv_iload_n hx hb dX12_readsRank_76 rfl (lv_at hl 0 rfl) ?_
            refine lv_iadd hx hb dX12_readsRank_77 ?_
            refine lv_iload_n hx hb dX12_readsRank_78 rfl (lv_at hl 2 rfl) ?_
            refine lv_if_ne (tgt := 86) hx hb dX12_readsRank_79 (by decide) (fun c_14 => ?_) (fun c_14 => ?_)
            · rw [if_neg c_14] at h
              refine lv_iload_n hx hb dX12_readsRank_86 rfl (lv_at hl 2 rfl) ?_
              refine lv_iconst (v := 1) hx hb dX12_readsRank_87 (by decide) ?_
              refine lv_icmp_ne (tgt := 95) hx hb dX12_readsRank_88 (by decide) (fun c_15 => ?_) (fun c_15 => ?_)
              · rw [if_neg c_15] at h
                refine lv_iconst (v := 5) hx hb dX12_readsRank_95 (by decide) ?_
                exact b_X12_readsRank_96 l dd me_readsThing hme_readsThing me_readsRank hme_readsRank S hr hlk hK N rec_24 hrec_24 σ_12 τ_12 x1 5 (2000 + r_10) h hw (lv_sub hl [1, 2] rfl)
              · rw [if_pos c_15] at h
                refine lv_iconst (v := 3) hx hb dX12_readsRank_91 (by decide) ?_
                refine lv_goto (tgt := 96) hx hb dX12_readsRank_92 (by decide) ?_
                exact b_X12_readsRank_96 l dd me_readsThing hme_readsThing me_readsRank hme_readsRank S hr hlk hK N rec_24 hrec_24 σ_12 τ_12 x1 3 (2000 + r_10) h hw (lv_sub hl [1, 2] rfl)
            · rw [if_pos c_14] at h
              refine lv_iconst (v := 0) hx hb dX12_readsRank_82 (by decide) ?_
              refine lv_goto (tgt := 96) hx hb dX12_readsRank_83 (by decide) ?_
              exact b_X12_readsRank_96 l dd me_readsThing hme_readsThing me_readsRank hme_readsRank S hr hlk hK N rec_24 hrec_24 σ_12 τ_12 x1 0 (2000 + r_10) h hw (lv_sub hl [1, 2] rfl)
          · rw [if_pos c_13] at h
            refine lv_iconst (v := 0) hx hb dX12_readsRank_70 (by decide) ?_
            obtain ⟨rfl, rfl, rfl⟩ := sm_inj h
            exact gx_ri (post := gq_p 0 σ_12 τ_12) (v := 0) S hr hlk hw rfl dX12_readsRank_71 ⟨rfl, rfl, rfl⟩
        · rw [if_neg c_11] at h
          refine lv_iconst (v := 1) hx hb dX12_readsRank_58 (by decide) ?_
          obtain ⟨rfl, rfl, rfl⟩ := sm_inj h
          exact gx_ri (post := gq_p 1 σ_10 τ_10) (v := 1) S hr hlk hw rfl dX12_readsRank_59 ⟨rfl, rfl, rfl⟩
    · rw [if_pos c_2] at h
      refine gx_lds S hK ss_16 rfl dX12_readsRank_33 ?_
      refine lv_goto (tgt := 50) hx hb dX12_readsRank_35 (by decide) ?_
      obtain ⟨r_16, σ_16, τ_16, q_16, h⟩ := bd_some h
      refine zs_V (As := [.ref (E.1.2.1 16)]) (rest := []) S hK hw (zs_k hK hw zk_16) (c_X12_takesOf l (E := E) N sb_16 σ τ q_16) rfl cw_X12_183 (va_recv hK.1 hw.1 cl_13.1 (gx_at t_199)) (gw_ok (by omega) (by omega)) rfl hl.1 rfl (Nat.le_of_ble_eq_true rfl) ⟨Nat.le_of_ble_eq_true rfl, Nat.le_of_ble_eq_true rfl⟩ dX12_readsRank_50 (fun r9 σ9 τ9 H locs hp hw => ?_)
      obtain ⟨rfl, rfl, rfl⟩ := hp
      refine lv_istore_n (lv' := [(3, .int r_16), (0, .ref (E.2.2 + 199)), (1, .int x1), (2, .int x2)]) hx hb dX12_readsRank_53 rfl hl (by decide) rfl (fun ls hl => ?_)
      refine lv_iload_n hx hb dX12_readsRank_54 rfl (lv_at hl 0 rfl) ?_
      refine lv_if_ge (tgt := 60) hx hb dX12_readsRank_55 (by decide) (fun c_17 => ?_) (fun c_17 => ?_)
      · rw [if_pos c_17] at h
        refine lv_aload_n hx hb dX12_readsRank_60 rfl (lv_at hl 1 rfl) ?_
        refine lv_iload_n hx hb dX12_readsRank_61 rfl (lv_at hl 2 rfl) ?_
        refine lv_iconst (v := 1) hx hb dX12_readsRank_62 (by decide) ?_
        refine lv_iadd hx hb dX12_readsRank_63 ?_
        obtain ⟨r_18, σ_18, τ_18, q_18, h⟩ := bd_some h
        refine gx_cVi (As := [.int (x1 + 1)]) (rest := []) S hK gx_ok hw (hme_readsRank σ_16 τ_16 (x1 + 1) _ _ _ q_18) cw_X12_243 t_199 cl_13 (gw_ok (by omega) (by omega)) rfl hl.1 rfl (Nat.le_of_ble_eq_true rfl) ⟨Nat.le_of_ble_eq_true rfl, Nat.le_of_ble_eq_true rfl⟩ dX12_readsRank_64 (fun r9 σ9 τ9 H locs hp hw => ?_)
        obtain ⟨rfl, rfl, rfl⟩ := hp
        refine lv_if_ne (tgt := 72) hx hb dX12_readsRank_67 (by decide) (fun c_19 => ?_) (fun c_19 => ?_)
        · rw [if_neg c_19] at h
          refine lv_aload_n hx hb dX12_readsRank_72 rfl (lv_at hl 1 rfl) ?_
          refine lv_sipush (v := 2000) hx hb dX12_readsRank_73 (by decide) ?_
          refine lv_iload_n hx hb dX12_readsRank_76 rfl (lv_at hl 0 rfl) ?_
          refine lv_iadd hx hb dX12_readsRank_77 ?_
          refine lv_iload_n hx hb dX12_readsRank_78 rfl (lv_at hl 2 rfl) ?_
          refine lv_if_ne (tgt := 86) hx hb dX12_readsRank_79 (by decide) (fun c_20 => ?_) (fun c_20 => ?_)
          · rw [if_neg c_20] at h
            refine lv_iload_n hx hb dX12_readsRank_86 rfl (lv_at hl 2 rfl) ?_
            refine lv_iconst (v := 1) hx hb dX12_readsRank_87 (by decide) ?_
            refine lv_icmp_ne (tgt := 95) hx hb dX12_readsRank_88 (by decide) (fun c_21 => ?_) (fun c_21 => ?_)
            · rw [if_neg c_21] at h
              refine lv_iconst (v := 5) hx hb dX12_readsRank_95 (by decide) ?_
              exact b_X12_readsRank_96 l dd me_readsThing hme_readsThing me_readsRank hme_readsRank S hr hlk hK N rec_24 hrec_24 σ_18 τ_18 x1 5 (2000 + r_16) h hw (lv_sub hl [1, 2] rfl)
            · rw [if_pos c_21] at h
              refine lv_iconst (v := 3) hx hb dX12_readsRank_91 (by decide) ?_
              refine lv_goto (tgt := 96) hx hb dX12_readsRank_92 (by decide) ?_
              exact b_X12_readsRank_96 l dd me_readsThing hme_readsThing me_readsRank hme_readsRank S hr hlk hK N rec_24 hrec_24 σ_18 τ_18 x1 3 (2000 + r_16) h hw (lv_sub hl [1, 2] rfl)
          · rw [if_pos c_20] at h
            refine lv_iconst (v := 0) hx hb dX12_readsRank_82 (by decide) ?_
            refine lv_goto (tgt := 96) hx hb dX12_readsRank_83 (by decide) ?_
            exact b_X12_readsRank_96 l dd me_readsThing hme_readsThing me_readsRank hme_readsRank S hr hlk hK N rec_24 hrec_24 σ_18 τ_18 x1 0 (2000 + r_16) h hw (lv_sub hl [1, 2] rfl)
        · rw [if_pos c_19] at h
          refine lv_iconst (v := 0) hx hb dX12_readsRank_70 (by decide) ?_
          obtain ⟨rfl, rfl, rfl⟩ := sm_inj h
          exact gx_ri (post := gq_p 0 σ_18 τ_18) (v := 0) S hr hlk hw rfl dX12_readsRank_71 ⟨rfl, rfl, rfl⟩
      · rw [if_neg c_17] at h
        refine lv_iconst (v := 1) hx hb dX12_readsRank_58 (by decide) ?_
        obtain ⟨rfl, rfl, rfl⟩ := sm_inj h
        exact gx_ri (post := gq_p 1 σ_16 τ_16) (v := 1) S hr hlk hw rfl dX12_readsRank_59 ⟨rfl, rfl, rfl⟩
set_option maxHeartbeats 4000000 in
set_option maxRecDepth 100000 in
theorem h_X12_readsRank_24 (l : Launch) (dd : Nat) (me_readsThing : gI → gJ → Option (Int32 × gI × gJ)) (hme_readsThing : ∀ (σ : gI) (τ : gJ) (r : Int32) (σ1 : gI) (τ1 : gJ), me_readsThing σ τ = some (r, σ1, τ1) → gx_Mi l yX12_readsThing cX12_readsThing 2 (some .boolean) (dd) gx_tb E σ τ [.ref (E.2.2 + 199)] (gq_p r σ1 τ1)) (me_readsRank : gI → gJ → Int32 → Option (Int32 × gI × gJ)) (hme_readsRank : ∀ (σ : gI) (τ : gJ) (x1 : Int32) (r : Int32) (σ1 : gI) (τ1 : gJ), me_readsRank σ τ x1 = some (r, σ1, τ1) → gx_Mi l yX12_readsRank cX12_readsRank 4 (some .boolean) (dd) gx_tb E σ τ [.ref (E.2.2 + 199), .int x1] (gq_p r σ1 τ1)) (S : CallFix P9 m9 C9 cX12_readsRank 4 s av.toArray gx_G RX12) (hr : meth.sig.returnType = (some .boolean)) (hlk : meth.locks = false) (hK : gx_K E s) (N : Nat) : ∀ (n : Nat) (σ : gI) (τ : gJ) (x1 : Int32) (x2 : Int32) (r : Int32) (σ1 : gI) (τ1 : gJ), H_X12_readsRank_24 me_readsThing me_readsRank N n σ τ x1 x2 = some (r, σ1, τ1) → ∀ (H : Heap) (locs : List Loc) (ls : Array Slot), gx_W gx_tb gx_tb.length E s σ τ H locs → lv_has ls 4 [(0, .ref (E.2.2 + 199)), (1, .int x1), (2, .int x2)] → W P9 l e9 (gx_rm (dd + 6)) s m9 av.toArray below meth C9 H locs 0 0 (gq_Qi below av s E r σ1 τ1) (F0 m9 24 ls []) := by
  intro n
  induction n with
  | zero => intro σ τ x1 x2 r σ1 τ1 h; cases h
  | succ n ih =>
    intro σ τ x1 x2 r σ1 τ1 h H locs ls hw hl
    exact k_X12_readsRank_24 l dd me_readsThing hme_readsThing me_readsRank hme_readsRank S hr hlk hK N (H_X12_readsRank_24 me_readsThing me_readsRank N n) (fun σ τ x1 x2 r σ1 τ1 H locs ls h hw hl => ih σ τ x1 x2 r σ1 τ1 h H locs ls hw hl) σ τ x1 x2 h hw hl
set_option maxHeartbeats 4000000 in
set_option maxRecDepth 100000 in
theorem b_X12_readsRank_0 (l : Launch) (dd : Nat) (me_readsThing : gI → gJ → Option (Int32 × gI × gJ)) (hme_readsThing : ∀ (σ : gI) (τ : gJ) (r : Int32) (σ1 : gI) (τ1 : gJ), me_readsThing σ τ = some (r, σ1, τ1) → gx_Mi l yX12_readsThing cX12_readsThing 2 (some .boolean) (dd) gx_tb E σ τ [.ref (E.2.2 + 199)] (gq_p r σ1 τ1)) (me_readsRank : gI → gJ → Int32 → Option (Int32 × gI × gJ)) (hme_readsRank : ∀ (σ : gI) (τ : gJ) (x1 : Int32) (r : Int32) (σ1 : gI) (τ1 : gJ), me_readsRank σ τ x1 = some (r, σ1, τ1) → gx_Mi l yX12_readsRank cX12_readsRank 4 (some .boolean) (dd) gx_tb E σ τ [.ref (E.2.2 + 199), .int x1] (gq_p r σ1 τ1)) (S : CallFix P9 m9 C9 cX12_readsRank 4 s av.toArray gx_G RX12) (hr : meth.sig.returnType = (some .boolean)) (hlk : meth.locks = false) (hK : gx_K E s) (N : Nat) (σ : gI) (τ : gJ) (x1 : Int32) {r : Int32} {σ1 : gI} {τ1 : gJ} (h : B_X12_readsRank_0 me_readsThing me_readsRank N σ τ x1 = some (r, σ1, τ1)) {H : Heap} {locs : List Loc} {ls : Array Slot} (hw : gx_W gx_tb gx_tb.length E s σ τ H locs) (hl : lv_has ls 4 [(0, .ref (E.2.2 + 199)), (1, .int x1)]) : W P9 l e9 (gx_rm (dd + 6)) s m9 av.toArray below meth C9 H locs 0 0 (gq_Qi below av s E r σ1 τ1) (F0 m9 0 ls []) := by
  have hx := S.1
  have hb := S.2.1
  unfold B_X12_readsRank_0 at h
  refine lv_iload_n hx hb dX12_readsRank_0 rfl (lv_at hl 1 rfl) ?_
  refine lv_iconst (v := 3) hx hb dX12_readsRank_1 (by decide) ?_
  refine lv_icmp_ne (tgt := 10) hx hb dX12_readsRank_2 (by decide) (fun c_1 => ?_) (fun c_1 => ?_)
  · rw [if_neg c_1] at h
    refine lv_aload_n hx hb dX12_readsRank_10 rfl (lv_at hl 0 rfl) ?_
    refine lv_iload_n hx hb dX12_readsRank_11 rfl (lv_at hl 1 rfl) ?_
    refine lv_iconst (v := 1) hx hb dX12_readsRank_12 (by decide) ?_
    refine lv_iadd hx hb dX12_readsRank_13 ?_
    obtain ⟨r_2, σ_2, τ_2, q_2, h⟩ := bd_some h
    refine gx_cVi (As := [.int (x1 + 1)]) (rest := []) S hK gx_ok hw (hme_readsRank σ τ (x1 + 1) _ _ _ q_2) cw_X12_243 t_199 cl_13 (gw_ok (by omega) (by omega)) rfl hl.1 rfl (Nat.le_of_ble_eq_true rfl) ⟨Nat.le_of_ble_eq_true rfl, Nat.le_of_ble_eq_true rfl⟩ dX12_readsRank_14 (fun r9 σ9 τ9 H locs hp hw => ?_)
    obtain ⟨rfl, rfl, rfl⟩ := hp
    refine lv_if_ne (tgt := 22) hx hb dX12_readsRank_17 (by decide) (fun c_3 => ?_) (fun c_3 => ?_)
    · rw [if_neg c_3] at h
      refine lv_iconst (v := 1) hx hb dX12_readsRank_22 (by decide) ?_
      refine lv_istore_n (lv' := [(2, .int 1), (0, .ref (E.2.2 + 199)), (1, .int x1)]) hx hb dX12_readsRank_23 rfl hl (by decide) rfl (fun ls hl => ?_)
      exact h_X12_readsRank_24 l dd me_readsThing hme_readsThing me_readsRank hme_readsRank S hr hlk hK N N σ_2 τ_2 x1 1 _ _ _ h _ _ _ hw (lv_sub hl [1, 2, 0] rfl)
    · rw [if_pos c_3] at h
      refine lv_iconst (v := 0) hx hb dX12_readsRank_20 (by decide) ?_
      obtain ⟨rfl, rfl, rfl⟩ := sm_inj h
      exact gx_ri (post := gq_p 0 σ_2 τ_2) (v := 0) S hr hlk hw rfl dX12_readsRank_21 ⟨rfl, rfl, rfl⟩
  · rw [if_pos c_1] at h
    refine lv_aload_n hx hb dX12_readsRank_5 rfl (lv_at hl 0 rfl) ?_
    obtain ⟨r_4, σ_4, τ_4, q_4, h⟩ := bd_some h
    refine gx_cVi (As := []) (rest := []) S hK gx_ok hw (hme_readsThing σ τ _ _ _ q_4) cw_X12_231 t_199 cl_13 (gw_ok (by omega) (by omega)) rfl hl.1 rfl (Nat.le_of_ble_eq_true rfl) ⟨Nat.le_of_ble_eq_true rfl, Nat.le_of_ble_eq_true rfl⟩ dX12_readsRank_6 (fun r9 σ9 τ9 H locs hp hw => ?_)
    obtain ⟨rfl, rfl, rfl⟩ := hp
    obtain ⟨hq_5, h⟩ := cb_some h
    obtain ⟨rfl, rfl, rfl⟩ := sm_inj h
    exact gx_ri (post := gq_p r_4 σ_4 τ_4) (v := r_4) S hr hlk hw (cb_nar hq_5) dX12_readsRank_9 ⟨rfl, rfl, rfl⟩
set_option maxHeartbeats 4000000 in
set_option maxRecDepth 100000 in
theorem c_X12_reads (l : Launch) {E : gE} (N : Nat) : ∀ D : Nat, (∀ (σ : gI) (τ : gJ) (r : Int32) (σ1 : gI) (τ1 : gJ), (R_X12_reads N D).1 σ τ = some (r, σ1, τ1) → gx_Mi l yX12_readsThing cX12_readsThing 2 (some .boolean) (6 * D) gx_tb E σ τ [.ref (E.2.2 + 199)] (gq_p r σ1 τ1)) ∧ (∀ (σ : gI) (τ : gJ) (x1 : Int32) (r : Int32) (σ1 : gI) (τ1 : gJ), (R_X12_reads N D).2 σ τ x1 = some (r, σ1, τ1) → gx_Mi l yX12_readsRank cX12_readsRank 4 (some .boolean) (6 * D) gx_tb E σ τ [.ref (E.2.2 + 199), .int x1] (gq_p r σ1 τ1)) := by
  intro D
  induction D with
  | zero => exact ⟨fun σ τ r σ1 τ1 h => (by cases h), fun σ τ x1 r σ1 τ1 h => (by cases h)⟩
  | succ D ih =>
    refine ⟨?_, ?_⟩
    · intro σ τ r σ1 τ1 h
      refine gx_bi (by decide +kernel) (Nat.le_of_ble_eq_true rfl) ?_
      intro P9 e9 s m9 below meth C9 S hr hlk hK hw ls hl
      have hl : lv_has ls 2 [(0, .ref (E.2.2 + 199))] := hl
      exact b_X12_readsThing_0 l (6 * D) ((R_X12_reads N D).1) (fun σ τ r σ1 τ1 h => ih.1 σ τ r σ1 τ1 h) ((R_X12_reads N D).2) (fun σ τ x1 r σ1 τ1 h => ih.2 σ τ x1 r σ1 τ1 h) S hr hlk hK N σ τ h hw hl
    · intro σ τ x1 r σ1 τ1 h
      refine gx_bi (by decide +kernel) (Nat.le_of_ble_eq_true rfl) ?_
      intro P9 e9 s m9 below meth C9 S hr hlk hK hw ls hl
      have hl : lv_has ls 4 [(0, .ref (E.2.2 + 199)), (1, .int x1)] := hl
      exact b_X12_readsRank_0 l (6 * D) ((R_X12_reads N D).1) (fun σ τ r σ1 τ1 h => ih.1 σ τ r σ1 τ1 h) ((R_X12_reads N D).2) (fun σ τ x1 r σ1 τ1 h => ih.2 σ τ x1 r σ1 τ1 h) S hr hlk hK N σ τ x1 h hw hl
/-! X12_round -/
def B_X12_round_132 (N : Nat) (σ : gI) (τ : gJ) (x2 : Int32) (x3 : Int32) : Option (Int32 × gI × gJ) := nm (up2 σ 199 33 0) fun σ_1 => if 0 ≤ x2 then (nm (up2 σ_1 199 1 0) fun σ_3 => bd (B_X12_enters_0 N σ_3 τ x3.toInt64) fun _ σ_4 τ_4 => some (x2, σ_4, τ_4)) else (some ((-2), σ_1, τ))
def C_X12_round_51 (N : Nat) (rec_51 : gI → gJ → Int32 → Int32 → Int32 → Int32 → Option (Int32 × gI × gJ)) (σ : gI) (τ : gJ) (x1 : Int32) (x2 : Int32) (x3 : Int32) (x4 : Int32) : Option (Int32 × gI × gJ) := if 300 < x4 then (B_X12_round_132 N σ τ x2 x3) else (if 0 ≤ x3 then (B_X12_round_132 N σ τ x2 x3) else (bd (B_X12_minuteGoes_0 N 224 σ τ) fun _ σ_3 τ_3 => if σ_3 199 34 = 0 then (nm (x4 + 1) fun v_5 => rec_51 σ_3 τ_3 x1 x2 x3 v_5) else (if σ_3 224 4 = 0 then (if σ_3 224 0 = x1 then (if 0 ≤ x2 then (nm (x4 - x2) fun v_11 => if 0 ≤ x2 then (nm (up2 σ_3 199 34 0) fun σ_13 => nm (x4 + 1) fun v_14 => rec_51 σ_13 τ_3 x1 x2 v_11 v_14) else (nm (up2 σ_3 199 34 0) fun σ_15 => nm (x4 + 1) fun v_16 => rec_51 σ_15 τ_3 x1 x4 v_11 v_16)) else (if 0 ≤ x2 then (nm (up2 σ_3 199 34 0) fun σ_18 => nm (x4 + 1) fun v_19 => rec_51 σ_18 τ_3 x1 x2 x3 v_19) else (nm (up2 σ_3 199 34 0) fun σ_20 => nm (x4 + 1) fun v_21 => rec_51 σ_20 τ_3 x1 x4 x3 v_21))) else (nm (x4 + 1) fun v_9 => rec_51 σ_3 τ_3 x1 x2 x3 v_9)) else (nm (x4 + 1) fun v_7 => rec_51 σ_3 τ_3 x1 x2 x3 v_7))))
def H_X12_round_51 (N : Nat) : Nat → gI → gJ → Int32 → Int32 → Int32 → Int32 → Option (Int32 × gI × gJ) := itn (fun rec_51 => C_X12_round_51 N rec_51) (fun _ _ _ _ _ _ => none)
def B_X12_round_0 (N : Nat) (σ : gI) (τ : gJ) (x1 : Int32) : Option (Int32 × gI × gJ) := nm (up2 σ 199 0 0) fun σ_1 => bd (B_X12_isPlace_0 N σ_1 τ x1) fun r_2 σ_2 τ_2 => if r_2 = 0 then (some ((-1), σ_2, τ_2)) else (bd (B_X12_thinksNow_0 N σ_2 τ_2) fun _ σ_4 τ_4 => nm (up2 σ_4 199 33 1) fun σ_5 => nm (up2 σ_5 199 35 x1) fun σ_6 => nm (up2 σ_6 199 34 0) fun σ_7 => bd (B_X12_laysAlone_0 N σ_7 τ_4 x1 99 9 0) fun _ σ_8 τ_8 => H_X12_round_51 N N σ_8 τ_8 x1 (-1) (-1) 1)
set_option maxHeartbeats 4000000 in
set_option maxRecDepth 100000 in
theorem b_X12_round_132 (l : Launch) (S : CallFix P9 m9 C9 cX12_round 5 s av.toArray gx_G RX12) (hr : meth.sig.returnType = (some .int)) (hlk : meth.locks = false) (hK : gx_K E s) (N : Nat) (σ : gI) (τ : gJ) (x2 : Int32) (x3 : Int32) {r : Int32} {σ1 : gI} {τ1 : gJ} (h : B_X12_round_132 N σ τ x2 x3 = some (r, σ1, τ1)) {H : Heap} {locs : List Loc} {ls : Array Slot} (hw : gx_W gx_tb gx_tb.length E s σ τ H locs) (hl : lv_has ls 5 [(0, .ref (E.2.2 + 199)), (2, .int x2), (3, .int x3)]) : W P9 l e9 (gx_rm 6) s m9 av.toArray below meth C9 H locs 0 0 (gq_Qi below av s E r σ1 τ1) (F0 m9 132 ls []) := by
  have hx := S.1
  have hb := S.2.1
  unfold B_X12_round_132 at h
  refine lv_aload_n hx hb dX12_round_132 rfl (lv_at hl 0 rfl) ?_
  refine lv_iconst (v := 0) hx hb dX12_round_133 (by decide) ?_
  refine gx_put S hK gx_ok hw t_199 cl_13 33 (by decide) rfl mw_1447 rfl rfl (ty := .boolean) (v := 0) (by decide +kernel) rfl rfl dX12_round_134 (fun H locs hw => ?_)
  obtain ⟨σ_1, e_1, h⟩ := nm_some h
  rw [← e_1] at hw
  refine lv_iload_n hx hb dX12_round_137 rfl (lv_at hl 1 rfl) ?_
  refine lv_if_ge (tgt := 144) hx hb dX12_round_138 (by decide) (fun c_2 => ?_) (fun c_2 => ?_)
  · rw [if_pos c_2] at h
    refine lv_aload_n hx hb dX12_round_144 rfl (lv_at hl 0 rfl) ?_
    refine lv_iconst (v := 0) hx hb dX12_round_145 (by decide) ?_
    refine gx_put S hK gx_ok hw t_199 cl_13 1 (by decide) rfl mw_1415 rfl rfl (ty := .int) (v := 0) (by decide +kernel) rfl rfl dX12_round_146 (fun H locs hw => ?_)
    obtain ⟨σ_3, e_3, h⟩ := nm_some h
    rw [← e_3] at hw
    refine lv_aload_n hx hb dX12_round_149 rfl (lv_at hl 0 rfl) ?_
    refine lv_iload_n hx hb dX12_round_150 rfl (lv_at hl 2 rfl) ?_
    refine lv_i2l (v := x3.toInt64) hx hb dX12_round_151 rfl ?_
    obtain ⟨u_4, σ_4, τ_4, q_4, h⟩ := bd_some h
    refine gx_cVv (As := [.long x3.toInt64]) (rest := []) S hK gx_ok hw (c_X12_enters l (E := E) N σ_3 τ x3.toInt64 q_4) cw_X12_122 t_199 cl_13 ⟨Nat.le_of_ble_eq_true rfl, Nat.le_of_ble_eq_true rfl⟩ rfl hl.1 rfl (Nat.le_of_ble_eq_true rfl) ⟨Nat.le_of_ble_eq_true rfl, Nat.le_of_ble_eq_true rfl⟩ dX12_round_152 (fun σ9 τ9 H locs hp hw => ?_)
    obtain ⟨rfl, rfl⟩ := hp
    refine lv_iload_n hx hb dX12_round_155 rfl (lv_at hl 1 rfl) ?_
    obtain ⟨rfl, rfl, rfl⟩ := sm_inj h
    exact gx_ri (post := gq_p x2 σ_4 τ_4) (v := x2) S hr hlk hw rfl dX12_round_156 ⟨rfl, rfl, rfl⟩
  · rw [if_neg c_2] at h
    refine lv_bipush (v := (-2)) hx hb dX12_round_141 (by decide) ?_
    obtain ⟨rfl, rfl, rfl⟩ := sm_inj h
    exact gx_ri (post := gq_p (-2) σ_1 τ) (v := (-2)) S hr hlk hw rfl dX12_round_143 ⟨rfl, rfl, rfl⟩
set_option maxHeartbeats 4000000 in
set_option maxRecDepth 100000 in
theorem k_X12_round_51 (l : Launch) (S : CallFix P9 m9 C9 cX12_round 5 s av.toArray gx_G RX12) (hr : meth.sig.returnType = (some .int)) (hlk : meth.locks = false) (hK : gx_K E s) (N : Nat) (rec_51 : gI → gJ → Int32 → Int32 → Int32 → Int32 → Option (Int32 × gI × gJ)) (hrec_51 : ∀ (σ : gI) (τ : gJ) (x1 : Int32) (x2 : Int32) (x3 : Int32) (x4 : Int32) (r : Int32) (σ1 : gI) (τ1 : gJ) (H : Heap) (locs : List Loc) (ls : Array Slot), rec_51 σ τ x1 x2 x3 x4 = some (r, σ1, τ1) → gx_W gx_tb gx_tb.length E s σ τ H locs → lv_has ls 5 [(0, .ref (E.2.2 + 199)), (1, .int x1), (2, .int x2), (3, .int x3), (4, .int x4)] → W P9 l e9 (gx_rm 6) s m9 av.toArray below meth C9 H locs 0 0 (gq_Qi below av s E r σ1 τ1) (F0 m9 51 ls [])) (σ : gI) (τ : gJ) (x1 : Int32) (x2 : Int32) (x3 : Int32) (x4 : Int32) {r : Int32} {σ1 : gI} {τ1 : gJ} (h : C_X12_round_51 N rec_51 σ τ x1 x2 x3 x4 = some (r, σ1, τ1)) {H : Heap} {locs : List Loc} {ls : Array Slot} (hw : gx_W gx_tb gx_tb.length E s σ τ H locs) (hl : lv_has ls 5 [(0, .ref (E.2.2 + 199)), (1, .int x1), (2, .int x2), (3, .int x3), (4, .int x4)]) : W P9 l e9 (gx_rm 6) s m9 av.toArray below meth C9 H locs 0 0 (gq_Qi below av s E r σ1 τ1) (F0 m9 51 ls []) := by
  have hx := S.1
  have hb := S.2.1
  unfold C_X12_round_51 at h
  refine lv_iload hx hb dX12_round_51 (lv_at hl 4 rfl) ?_
  refine lv_sipush (v := 300) hx hb dX12_round_53 (by decide) ?_
  refine lv_icmp_gt (tgt := 132) hx hb dX12_round_56 (by decide) (fun c_1 => ?_) (fun c_1 => ?_)
  · rw [if_pos c_1] at h
    exact b_X12_round_132 l S hr hlk hK N σ τ x2 x3 h hw (lv_sub hl [0, 2, 3] rfl)
  · rw [if_neg c_1] at h
    refine lv_iload_n hx hb dX12_round_59 rfl (lv_at hl 3 rfl) ?_
    refine lv_if_ge (tgt := 132) hx hb dX12_round_60 (by decide) (fun c_2 => ?_) (fun c_2 => ?_)
    · rw [if_pos c_2] at h
      exact b_X12_round_132 l S hr hlk hK N σ τ x2 x3 h hw (lv_sub hl [0, 2, 3] rfl)
    · rw [if_neg c_2] at h
      refine lv_aload_n hx hb dX12_round_63 rfl (lv_at hl 0 rfl) ?_
      refine lv_aload_n hx hb dX12_round_64 rfl (lv_at hl 0 rfl) ?_
      refine gx_getr (j := 224) S hK hw t_199 cl_13 44 (by decide) rfl mw_1458 rfl dX12_round_65 ?_
      obtain ⟨u_3, σ_3, τ_3, q_3, h⟩ := bd_some h
      refine gx_cVv (As := [.ref (E.2.2 + 224)]) (rest := []) S hK gx_ok hw (c_X12_minuteGoes l (E := E) N 224 t_224 σ τ q_3) cw_X12_349 t_199 cl_13 ⟨Nat.le_of_ble_eq_true rfl, Nat.le_of_ble_eq_true rfl⟩ rfl hl.1 rfl (Nat.le_of_ble_eq_true rfl) ⟨Nat.le_of_ble_eq_true rfl, Nat.le_of_ble_eq_true rfl⟩ dX12_round_68 (fun σ9 τ9 H locs hp hw => ?_)
      obtain ⟨rfl, rfl⟩ := hp
      refine lv_aload_n hx hb dX12_round_71 rfl (lv_at hl 0 rfl) ?_
      refine gx_get S hK hw t_199 cl_13 34 (by decide) rfl mw_1448 rfl dX12_round_72 ?_
      refine lv_if_eq (tgt := 126) hx hb dX12_round_75 (by decide) (fun c_4 => ?_) (fun c_4 => ?_)
      · rw [if_pos c_4] at h
        refine lv_iinc (v := x4 + 1) (lv' := [(4, .int (x4 + 1)), (0, .ref (E.2.2 + 199)), (1, .int x1), (2, .int x2), (3, .int x3)]) hx hb dX12_round_126 hl (k := 4) rfl rfl (by decide) rfl (fun ls hl => ?_)
        obtain ⟨v_5, e_5, h⟩ := nm_some h
        have hl : lv_has ls 5 [(4, .int v_5), (0, .ref (E.2.2 + 199)), (1, .int x1), (2, .int x2), (3, .int x3)] := by rw [e_5]; exact hl
        refine lv_goto (tgt := 51) hx hb dX12_round_129 (by decide) ?_
        exact hrec_51 σ_3 τ_3 x1 x2 x3 v_5 _ _ _ _ _ _ h hw (lv_sub hl [1, 2, 3, 4, 0] rfl)
      · rw [if_neg c_4] at h
        refine lv_aload_n hx hb dX12_round_78 rfl (lv_at hl 0 rfl) ?_
        refine gx_getr (j := 224) S hK hw t_199 cl_13 44 (by decide) rfl mw_1458 rfl dX12_round_79 ?_
        refine lv_iconst (v := 4) hx hb dX12_round_82 (by decide) ?_
        refine gx_iald S hK hw t_224 4 rfl (gx_in rfl (by decide) (by decide)) dX12_round_83 ?_
        refine lv_if_ne (tgt := 126) hx hb dX12_round_84 (by decide) (fun c_6 => ?_) (fun c_6 => ?_)
        · rw [if_neg c_6] at h
          refine lv_iinc (v := x4 + 1) (lv' := [(4, .int (x4 + 1)), (0, .ref (E.2.2 + 199)), (1, .int x1), (2, .int x2), (3, .int x3)]) hx hb dX12_round_126 hl (k := 4) rfl rfl (by decide) rfl (fun ls hl => ?_)
          obtain ⟨v_7, e_7, h⟩ := nm_some h
          have hl : lv_has ls 5 [(4, .int v_7), (0, .ref (E.2.2 + 199)), (1, .int x1), (2, .int x2), (3, .int x3)] := by rw [e_7]; exact hl
          refine lv_goto (tgt := 51) hx hb dX12_round_129 (by decide) ?_
          exact hrec_51 σ_3 τ_3 x1 x2 x3 v_7 _ _ _ _ _ _ h hw (lv_sub hl [1, 2, 3, 4, 0] rfl)
        · rw [if_pos c_6] at h
          refine lv_aload_n hx hb dX12_round_87 rfl (lv_at hl 0 rfl) ?_
          refine gx_getr (j := 224) S hK hw t_199 cl_13 44 (by decide) rfl mw_1458 rfl dX12_round_88 ?_
          refine lv_iconst (v := 0) hx hb dX12_round_91 (by decide) ?_
          refine gx_iald S hK hw t_224 0 rfl (gx_in rfl (by decide) (by decide)) dX12_round_92 ?_
          refine lv_iload_n hx hb dX12_round_93 rfl (lv_at hl 1 rfl) ?_
          refine lv_icmp_ne (tgt := 126) hx hb dX12_round_94 (by decide) (fun c_8 => ?_) (fun c_8 => ?_)
          · rw [if_neg c_8] at h
            refine lv_iinc (v := x4 + 1) (lv' := [(4, .int (x4 + 1)), (0, .ref (E.2.2 + 199)), (1, .int x1), (2, .int x2), (3, .int x3)]) hx hb dX12_round_126 hl (k := 4) rfl rfl (by decide) rfl (fun ls hl => ?_)
            obtain ⟨v_9, e_9, h⟩ := nm_some h
            have hl : lv_has ls 5 [(4, .int v_9), (0, .ref (E.2.2 + 199)), (1, .int x1), (2, .int x2), (3, .int x3)] := by rw [e_9]; exact hl
            refine lv_goto (tgt := 51) hx hb dX12_round_129 (by decide) ?_
            exact hrec_51 σ_3 τ_3 x1 x2 x3 v_9 _ _ _ _ _ _ h hw (lv_sub hl [1, 2, 3, 4, 0] rfl)
          · rw [if_pos c_8] at h
            refine lv_iload_n hx hb dX12_round_97 rfl (lv_at hl 2 rfl) ?_
            refine lv_if_ge (tgt := 105) hx hb dX12_round_98 (by decide) (fun c_10 => ?_) (fun c_10 => ?_)
            · rw [if_pos c_10] at h
              refine lv_iload hx hb dX12_round_105 (lv_at hl 4 rfl) ?_
              refine lv_iload_n hx hb dX12_round_107 rfl (lv_at hl 2 rfl) ?_
              refine lv_isub hx hb dX12_round_108 ?_
              refine lv_istore_n (lv' := [(3, .int (x4 - x2)), (0, .ref (E.2.2 + 199)), (1, .int x1), (2, .int x2), (4, .int x4)]) hx hb dX12_round_109 rfl hl (by decide) rfl (fun ls hl => ?_)
              obtain ⟨v_11, e_11, h⟩ := nm_some h
              have hl : lv_has ls 5 [(3, .int v_11), (0, .ref (E.2.2 + 199)), (1, .int x1), (2, .int x2), (4, .int x4)] := by rw [e_11]; exact hl
              refine lv_iload_n hx hb dX12_round_110 rfl (lv_at hl 3 rfl) ?_
              refine lv_if_ge (tgt := 119) hx hb dX12_round_111 (by decide) (fun c_12 => ?_) (fun c_12 => ?_)
              · rw [if_pos c_12] at h
                refine lv_iload_n hx hb dX12_round_119 rfl (lv_at hl 3 rfl) ?_
                refine lv_istore_n (lv' := [(2, .int x2), (3, .int v_11), (0, .ref (E.2.2 + 199)), (1, .int x1), (4, .int x4)]) hx hb dX12_round_120 rfl hl (by decide) rfl (fun ls hl => ?_)
                refine lv_aload_n hx hb dX12_round_121 rfl (lv_at hl 2 rfl) ?_
                refine lv_iconst (v := 0) hx hb dX12_round_122 (by decide) ?_
                refine gx_put S hK gx_ok hw t_199 cl_13 34 (by decide) rfl mw_1448 rfl rfl (ty := .boolean) (v := 0) (by decide +kernel) rfl rfl dX12_round_123 (fun H locs hw => ?_)
                obtain ⟨σ_13, e_13, h⟩ := nm_some h
                rw [← e_13] at hw
                refine lv_iinc (v := x4 + 1) (lv' := [(4, .int (x4 + 1)), (2, .int x2), (3, .int v_11), (0, .ref (E.2.2 + 199)), (1, .int x1)]) hx hb dX12_round_126 hl (k := 4) rfl rfl (by decide) rfl (fun ls hl => ?_)
                obtain ⟨v_14, e_14, h⟩ := nm_some h
                have hl : lv_has ls 5 [(4, .int v_14), (2, .int x2), (3, .int v_11), (0, .ref (E.2.2 + 199)), (1, .int x1)] := by rw [e_14]; exact hl
                refine lv_goto (tgt := 51) hx hb dX12_round_129 (by decide) ?_
                exact hrec_51 σ_13 τ_3 x1 x2 v_11 v_14 _ _ _ _ _ _ h hw (lv_sub hl [3, 4, 1, 2, 0] rfl)
              · rw [if_neg c_12] at h
                refine lv_iload hx hb dX12_round_114 (lv_at hl 4 rfl) ?_
                refine lv_goto (tgt := 120) hx hb dX12_round_116 (by decide) ?_
                refine lv_istore_n (lv' := [(2, .int x4), (3, .int v_11), (0, .ref (E.2.2 + 199)), (1, .int x1), (4, .int x4)]) hx hb dX12_round_120 rfl hl (by decide) rfl (fun ls hl => ?_)
                refine lv_aload_n hx hb dX12_round_121 rfl (lv_at hl 2 rfl) ?_
                refine lv_iconst (v := 0) hx hb dX12_round_122 (by decide) ?_
                refine gx_put S hK gx_ok hw t_199 cl_13 34 (by decide) rfl mw_1448 rfl rfl (ty := .boolean) (v := 0) (by decide +kernel) rfl rfl dX12_round_123 (fun H locs hw => ?_)
                obtain ⟨σ_15, e_15, h⟩ := nm_some h
                rw [← e_15] at hw
                refine lv_iinc (v := x4 + 1) (lv' := [(4, .int (x4 + 1)), (2, .int x4), (3, .int v_11), (0, .ref (E.2.2 + 199)), (1, .int x1)]) hx hb dX12_round_126 hl (k := 4) rfl rfl (by decide) rfl (fun ls hl => ?_)
                obtain ⟨v_16, e_16, h⟩ := nm_some h
                have hl : lv_has ls 5 [(4, .int v_16), (2, .int x4), (3, .int v_11), (0, .ref (E.2.2 + 199)), (1, .int x1)] := by rw [e_16]; exact hl
                refine lv_goto (tgt := 51) hx hb dX12_round_129 (by decide) ?_
                exact hrec_51 σ_15 τ_3 x1 x4 v_11 v_16 _ _ _ _ _ _ h hw (lv_sub hl [3, 4, 1, 2, 0] rfl)
            · rw [if_neg c_10] at h
              refine lv_iload_n hx hb dX12_round_101 rfl (lv_at hl 3 rfl) ?_
              refine lv_goto (tgt := 109) hx hb dX12_round_102 (by decide) ?_
              refine lv_istore_n (lv' := [(3, .int x3), (0, .ref (E.2.2 + 199)), (1, .int x1), (2, .int x2), (4, .int x4)]) hx hb dX12_round_109 rfl hl (by decide) rfl (fun ls hl => ?_)
              refine lv_iload_n hx hb dX12_round_110 rfl (lv_at hl 3 rfl) ?_
              refine lv_if_ge (tgt := 119) hx hb dX12_round_111 (by decide) (fun c_17 => ?_) (fun c_17 => ?_)
              · rw [if_pos c_17] at h
                refine lv_iload_n hx hb dX12_round_119 rfl (lv_at hl 3 rfl) ?_
                refine lv_istore_n (lv' := [(2, .int x2), (3, .int x3), (0, .ref (E.2.2 + 199)), (1, .int x1), (4, .int x4)]) hx hb dX12_round_120 rfl hl (by decide) rfl (fun ls hl => ?_)
                refine lv_aload_n hx hb dX12_round_121 rfl (lv_at hl 2 rfl) ?_
                refine lv_iconst (v := 0) hx hb dX12_round_122 (by decide) ?_
                refine gx_put S hK gx_ok hw t_199 cl_13 34 (by decide) rfl mw_1448 rfl rfl (ty := .boolean) (v := 0) (by decide +kernel) rfl rfl dX12_round_123 (fun H locs hw => ?_)
                obtain ⟨σ_18, e_18, h⟩ := nm_some h
                rw [← e_18] at hw
                refine lv_iinc (v := x4 + 1) (lv' := [(4, .int (x4 + 1)), (2, .int x2), (3, .int x3), (0, .ref (E.2.2 + 199)), (1, .int x1)]) hx hb dX12_round_126 hl (k := 4) rfl rfl (by decide) rfl (fun ls hl => ?_)
                obtain ⟨v_19, e_19, h⟩ := nm_some h
                have hl : lv_has ls 5 [(4, .int v_19), (2, .int x2), (3, .int x3), (0, .ref (E.2.2 + 199)), (1, .int x1)] := by rw [e_19]; exact hl
                refine lv_goto (tgt := 51) hx hb dX12_round_129 (by decide) ?_
                exact hrec_51 σ_18 τ_3 x1 x2 x3 v_19 _ _ _ _ _ _ h hw (lv_sub hl [3, 4, 1, 2, 0] rfl)
              · rw [if_neg c_17] at h
                refine lv_iload hx hb dX12_round_114 (lv_at hl 4 rfl) ?_
                refine lv_goto (tgt := 120) hx hb dX12_round_116 (by decide) ?_
                refine lv_istore_n (lv' := [(2, .int x4), (3, .int x3), (0, .ref (E.2.2 + 199)), (1, .int x1), (4, .int x4)]) hx hb dX12_round_120 rfl hl (by decide) rfl (fun ls hl => ?_)
                refine lv_aload_n hx hb dX12_round_121 rfl (lv_at hl 2 rfl) ?_
                refine lv_iconst (v := 0) hx hb dX12_round_122 (by decide) ?_
                refine gx_put S hK gx_ok hw t_199 cl_13 34 (by decide) rfl mw_1448 rfl rfl (ty := .boolean) (v := 0) (by decide +kernel) rfl rfl dX12_round_123 (fun H locs hw => ?_)
                obtain ⟨σ_20, e_20, h⟩ := nm_some h
                rw [← e_20] at hw
                refine lv_iinc (v := x4 + 1) (lv' := [(4, .int (x4 + 1)), (2, .int x4), (3, .int x3), (0, .ref (E.2.2 + 199)), (1, .int x1)]) hx hb dX12_round_126 hl (k := 4) rfl rfl (by decide) rfl (fun ls hl => ?_)
                obtain ⟨v_21, e_21, h⟩ := nm_some h
                have hl : lv_has ls 5 [(4, .int v_21), (2, .int x4), (3, .int x3), (0, .ref (E.2.2 + 199)), (1, .int x1)] := by rw [e_21]; exact hl
                refine lv_goto (tgt := 51) hx hb dX12_round_129 (by decide) ?_
                exact hrec_51 σ_20 τ_3 x1 x4 x3 v_21 _ _ _ _ _ _ h hw (lv_sub hl [3, 4, 1, 2, 0] rfl)
set_option maxHeartbeats 4000000 in
set_option maxRecDepth 100000 in
theorem h_X12_round_51 (l : Launch) (S : CallFix P9 m9 C9 cX12_round 5 s av.toArray gx_G RX12) (hr : meth.sig.returnType = (some .int)) (hlk : meth.locks = false) (hK : gx_K E s) (N : Nat) : ∀ (n : Nat) (σ : gI) (τ : gJ) (x1 : Int32) (x2 : Int32) (x3 : Int32) (x4 : Int32) (r : Int32) (σ1 : gI) (τ1 : gJ), H_X12_round_51 N n σ τ x1 x2 x3 x4 = some (r, σ1, τ1) → ∀ (H : Heap) (locs : List Loc) (ls : Array Slot), gx_W gx_tb gx_tb.length E s σ τ H locs → lv_has ls 5 [(0, .ref (E.2.2 + 199)), (1, .int x1), (2, .int x2), (3, .int x3), (4, .int x4)] → W P9 l e9 (gx_rm 6) s m9 av.toArray below meth C9 H locs 0 0 (gq_Qi below av s E r σ1 τ1) (F0 m9 51 ls []) := by
  intro n
  induction n with
  | zero => intro σ τ x1 x2 x3 x4 r σ1 τ1 h; cases h
  | succ n ih =>
    intro σ τ x1 x2 x3 x4 r σ1 τ1 h H locs ls hw hl
    exact k_X12_round_51 l S hr hlk hK N (H_X12_round_51 N n) (fun σ τ x1 x2 x3 x4 r σ1 τ1 H locs ls h hw hl => ih σ τ x1 x2 x3 x4 r σ1 τ1 h H locs ls hw hl) σ τ x1 x2 x3 x4 h hw hl
set_option maxHeartbeats 4000000 in
set_option maxRecDepth 100000 in
theorem b_X12_round_0 (l : Launch) (S : CallFix P9 m9 C9 cX12_round 5 s av.toArray gx_G RX12) (hr : meth.sig.returnType = (some .int)) (hlk : meth.locks = false) (hK : gx_K E s) (N : Nat) (σ : gI) (τ : gJ) (x1 : Int32) {r : Int32} {σ1 : gI} {τ1 : gJ} (h : B_X12_round_0 N σ τ x1 = some (r, σ1, τ1)) {H : Heap} {locs : List Loc} {ls : Array Slot} (hw : gx_W gx_tb gx_tb.length E s σ τ H locs) (hl : lv_has ls 5 [(0, .ref (E.2.2 + 199)), (1, .int x1)]) : W P9 l e9 (gx_rm 6) s m9 av.toArray below meth C9 H locs 0 0 (gq_Qi below av s E r σ1 τ1) (F0 m9 0 ls []) := by
  have hx := S.1
  have hb := S.2.1
  unfold B_X12_round_0 at h
  refine lv_aload_n hx hb dX12_round_0 rfl (lv_at hl 0 rfl) ?_
  refine lv_iconst (v := 0) hx hb dX12_round_1 (by decide) ?_
  refine gx_put S hK gx_ok hw t_199 cl_13 0 (by decide) rfl mw_1414 rfl rfl (ty := .int) (v := 0) (by decide +kernel) rfl rfl dX12_round_2 (fun H locs hw => ?_)
  obtain ⟨σ_1, e_1, h⟩ := nm_some h
  rw [← e_1] at hw
  refine lv_aload_n hx hb dX12_round_5 rfl (lv_at hl 0 rfl) ?_
  refine lv_iload_n hx hb dX12_round_6 rfl (lv_at hl 1 rfl) ?_
  obtain ⟨r_2, σ_2, τ_2, q_2, h⟩ := bd_some h
  refine gx_cVi (As := [.int x1]) (rest := []) S hK gx_ok hw (c_X12_isPlace l (E := E) N σ_1 τ x1 q_2) cw_X12_133 t_199 cl_13 ⟨Nat.le_of_ble_eq_true rfl, Nat.le_of_ble_eq_true rfl⟩ rfl hl.1 rfl (Nat.le_of_ble_eq_true rfl) ⟨Nat.le_of_ble_eq_true rfl, Nat.le_of_ble_eq_true rfl⟩ dX12_round_7 (fun r9 σ9 τ9 H locs hp hw => ?_)
  obtain ⟨rfl, rfl, rfl⟩ := hp
  refine lv_if_ne (tgt := 15) hx hb dX12_round_10 (by decide) (fun c_3 => ?_) (fun c_3 => ?_)
  · rw [if_neg c_3] at h
    refine lv_aload_n hx hb dX12_round_15 rfl (lv_at hl 0 rfl) ?_
    obtain ⟨u_4, σ_4, τ_4, q_4, h⟩ := bd_some h
    refine gx_cVv (As := []) (rest := []) S hK gx_ok hw (c_X12_thinksNow l (E := E) N σ_2 τ_2 q_4) cw_X12_409 t_199 cl_13 ⟨Nat.le_of_ble_eq_true rfl, Nat.le_of_ble_eq_true rfl⟩ rfl hl.1 rfl (Nat.le_of_ble_eq_true rfl) ⟨Nat.le_of_ble_eq_true rfl, Nat.le_of_ble_eq_true rfl⟩ dX12_round_16 (fun σ9 τ9 H locs hp hw => ?_)
    obtain ⟨rfl, rfl⟩ := hp
    refine lv_aload_n hx hb dX12_round_19 rfl (lv_at hl 0 rfl) ?_
    refine lv_iconst (v := 1) hx hb dX12_round_20 (by decide) ?_
    refine gx_put S hK gx_ok hw t_199 cl_13 33 (by decide) rfl mw_1447 rfl rfl (ty := .boolean) (v := 1) (by decide +kernel) rfl rfl dX12_round_21 (fun H locs hw => ?_)
    obtain ⟨σ_5, e_5, h⟩ := nm_some h
    rw [← e_5] at hw
    refine lv_aload_n hx hb dX12_round_24 rfl (lv_at hl 0 rfl) ?_
    refine lv_iload_n hx hb dX12_round_25 rfl (lv_at hl 1 rfl) ?_
    refine gx_put S hK gx_ok hw t_199 cl_13 35 (by decide) rfl mw_1449 rfl rfl (ty := .int) (v := x1) (by decide +kernel) rfl rfl dX12_round_26 (fun H locs hw => ?_)
    obtain ⟨σ_6, e_6, h⟩ := nm_some h
    rw [← e_6] at hw
    refine lv_aload_n hx hb dX12_round_29 rfl (lv_at hl 0 rfl) ?_
    refine lv_iconst (v := 0) hx hb dX12_round_30 (by decide) ?_
    refine gx_put S hK gx_ok hw t_199 cl_13 34 (by decide) rfl mw_1448 rfl rfl (ty := .boolean) (v := 0) (by decide +kernel) rfl rfl dX12_round_31 (fun H locs hw => ?_)
    obtain ⟨σ_7, e_7, h⟩ := nm_some h
    rw [← e_7] at hw
    refine lv_aload_n hx hb dX12_round_34 rfl (lv_at hl 0 rfl) ?_
    refine lv_iload_n hx hb dX12_round_35 rfl (lv_at hl 1 rfl) ?_
    refine lv_bipush (v := 99) hx hb dX12_round_36 (by decide) ?_
    refine lv_bipush (v := 9) hx hb dX12_round_38 (by decide) ?_
    refine lv_iconst (v := 0) hx hb dX12_round_40 (by decide) ?_
    obtain ⟨u_8, σ_8, τ_8, q_8, h⟩ := bd_some h
    refine gx_cVv (As := [.int x1, .int 99, .int 9, .int 0]) (rest := []) S hK gx_ok hw (c_X12_laysAlone l (E := E) N σ_7 τ_4 x1 99 9 0 q_8) cw_X12_395 t_199 cl_13 ⟨Nat.le_of_ble_eq_true rfl, Nat.le_of_ble_eq_true rfl⟩ rfl hl.1 rfl (Nat.le_of_ble_eq_true rfl) ⟨Nat.le_of_ble_eq_true rfl, Nat.le_of_ble_eq_true rfl⟩ dX12_round_41 (fun σ9 τ9 H locs hp hw => ?_)
    obtain ⟨rfl, rfl⟩ := hp
    refine lv_iconst (v := (-1)) hx hb dX12_round_44 (by decide) ?_
    refine lv_istore_n (lv' := [(2, .int (-1)), (0, .ref (E.2.2 + 199)), (1, .int x1)]) hx hb dX12_round_45 rfl hl (by decide) rfl (fun ls hl => ?_)
    refine lv_iconst (v := (-1)) hx hb dX12_round_46 (by decide) ?_
    refine lv_istore_n (lv' := [(3, .int (-1)), (2, .int (-1)), (0, .ref (E.2.2 + 199)), (1, .int x1)]) hx hb dX12_round_47 rfl hl (by decide) rfl (fun ls hl => ?_)
    refine lv_iconst (v := 1) hx hb dX12_round_48 (by decide) ?_
    refine lv_istore (lv' := [(4, .int 1), (3, .int (-1)), (2, .int (-1)), (0, .ref (E.2.2 + 199)), (1, .int x1)]) hx hb dX12_round_49 hl (by decide) rfl (fun ls hl => ?_)
    exact h_X12_round_51 l S hr hlk hK N N σ_8 τ_8 x1 (-1) (-1) 1 _ _ _ h _ _ _ hw (lv_sub hl [3, 4, 2, 1, 0] rfl)
  · rw [if_pos c_3] at h
    refine lv_iconst (v := (-1)) hx hb dX12_round_13 (by decide) ?_
    obtain ⟨rfl, rfl, rfl⟩ := sm_inj h
    exact gx_ri (post := gq_p (-1) σ_2 τ_2) (v := (-1)) S hr hlk hw rfl dX12_round_14 ⟨rfl, rfl, rfl⟩
set_option maxHeartbeats 4000000 in
set_option maxRecDepth 100000 in
theorem c_X12_round (l : Launch) {E : gE} (N : Nat) (σ : gI) (τ : gJ) (x1 : Int32) {r : Int32} {σ1 : gI} {τ1 : gJ} (h : B_X12_round_0 N σ τ x1 = some (r, σ1, τ1)) : gx_Mi l yX12_round cX12_round 5 (some .int) 6 gx_tb E σ τ [.ref (E.2.2 + 199), .int x1] (gq_p r σ1 τ1) := by
  refine gx_bi (by decide +kernel) (Nat.le_of_ble_eq_true rfl) ?_
  intro P9 e9 s m9 below meth C9 S hr hlk hK hw ls hl
  have hl : lv_has ls 5 [(0, .ref (E.2.2 + 199)), (1, .int x1)] := hl
  exact b_X12_round_0 l S hr hlk hK N σ τ x1 h hw hl
/-! X12_row -/
def B_X12_row_0 (N : Nat) (σ : gI) (τ : gJ) (x1 : Int32) : Option (Int64 × gI × gJ) := nm (up2 σ 199 0 0) fun σ_1 => bd (B_X12_in_0 N σ_1 τ x1.toInt64 0 (((σ_1 199 1) - 1).toInt64)) fun r_2 σ_2 τ_2 => if r_2 = 0 then (nm (up2 σ_2 199 0 1) fun σ_5 => some (0, σ_5, τ_2)) else (ck x1 16 fun j_4 => some (τ_2 200 j_4, σ_2, τ_2))
set_option maxHeartbeats 4000000 in
set_option maxRecDepth 100000 in
theorem b_X12_row_0 (l : Launch) (S : CallFix P9 m9 C9 cX12_row 2 s av.toArray gx_G RX12) (hr : meth.sig.returnType = (some .long)) (hlk : meth.locks = false) (hK : gx_K E s) (N : Nat) (σ : gI) (τ : gJ) (x1 : Int32) {r : Int64} {σ1 : gI} {τ1 : gJ} (h : B_X12_row_0 N σ τ x1 = some (r, σ1, τ1)) {H : Heap} {locs : List Loc} {ls : Array Slot} (hw : gx_W gx_tb gx_tb.length E s σ τ H locs) (hl : lv_has ls 2 [(0, .ref (E.2.2 + 199)), (1, .int x1)]) : W P9 l e9 (gx_rm 1) s m9 av.toArray below meth C9 H locs 0 0 (gq_Ql below av s E r σ1 τ1) (F0 m9 0 ls []) := by
  have hx := S.1
  have hb := S.2.1
  unfold B_X12_row_0 at h
  refine lv_aload_n hx hb dX12_row_0 rfl (lv_at hl 0 rfl) ?_
  refine lv_iconst (v := 0) hx hb dX12_row_1 (by decide) ?_
  refine gx_put S hK gx_ok hw t_199 cl_13 0 (by decide) rfl mw_1414 rfl rfl (ty := .int) (v := 0) (by decide +kernel) rfl rfl dX12_row_2 (fun H locs hw => ?_)
  obtain ⟨σ_1, e_1, h⟩ := nm_some h
  rw [← e_1] at hw
  refine lv_iload_n hx hb dX12_row_5 rfl (lv_at hl 1 rfl) ?_
  refine lv_i2l (v := x1.toInt64) hx hb dX12_row_6 rfl ?_
  refine lv_lconst (v := 0) hx hb dX12_row_7 (by decide) ?_
  refine lv_aload_n hx hb dX12_row_8 rfl (lv_at hl 0 rfl) ?_
  refine gx_get S hK hw t_199 cl_13 1 (by decide) rfl mw_1415 rfl dX12_row_9 ?_
  refine lv_iconst (v := 1) hx hb dX12_row_12 (by decide) ?_
  refine lv_isub hx hb dX12_row_13 ?_
  refine lv_i2l (v := ((σ_1 199 1) - 1).toInt64) hx hb dX12_row_14 rfl ?_
  obtain ⟨r_2, σ_2, τ_2, q_2, h⟩ := bd_some h
  refine gx_cSi (As := [.long x1.toInt64, .long 0, .long (((σ_1 199 1) - 1).toInt64)]) (rest := []) S hK gx_ok hw (c_X12_in l (E := E) N σ_1 τ x1.toInt64 0 (((σ_1 199 1) - 1).toInt64) q_2) cw_X12_129 ⟨Nat.le_of_ble_eq_true rfl, Nat.le_of_ble_eq_true rfl⟩ rfl hl.1 rfl (Nat.le_of_ble_eq_true rfl) ⟨Nat.le_of_ble_eq_true rfl, Nat.le_of_ble_eq_true rfl⟩ dX12_row_15 (fun r9 σ9 τ9 H locs hp hw => ?_)
  obtain ⟨rfl, rfl, rfl⟩ := hp
  refine lv_if_ne (tgt := 28) hx hb dX12_row_18 (by decide) (fun c_3 => ?_) (fun c_3 => ?_)
  · rw [if_neg c_3] at h
    refine lv_aload_n hx hb dX12_row_28 rfl (lv_at hl 0 rfl) ?_
    refine gx_getr (j := 200) S hK hw t_199 cl_13 2 (by decide) rfl mw_1416 rfl dX12_row_29 ?_
    refine lv_iload_n hx hb dX12_row_32 rfl (lv_at hl 1 rfl) ?_
    obtain ⟨j_4, hj_4, hi_4, h⟩ := ck_some h
    refine gx_lald S hK hw t_200 j_4 hj_4 hi_4 dX12_row_33 ?_
    obtain ⟨rfl, rfl, rfl⟩ := sm_inj h
    exact gx_rl (post := gq_p (τ_2 200 j_4) σ_2 τ_2) (v := τ_2 200 j_4) S hr hlk hw dX12_row_34 ⟨rfl, rfl, rfl⟩
  · rw [if_pos c_3] at h
    refine lv_aload_n hx hb dX12_row_21 rfl (lv_at hl 0 rfl) ?_
    refine lv_iconst (v := 1) hx hb dX12_row_22 (by decide) ?_
    refine gx_put S hK gx_ok hw t_199 cl_13 0 (by decide) rfl mw_1414 rfl rfl (ty := .int) (v := 1) (by decide +kernel) rfl rfl dX12_row_23 (fun H locs hw => ?_)
    obtain ⟨σ_5, e_5, h⟩ := nm_some h
    rw [← e_5] at hw
    refine lv_lconst (v := 0) hx hb dX12_row_26 (by decide) ?_
    obtain ⟨rfl, rfl, rfl⟩ := sm_inj h
    exact gx_rl (post := gq_p 0 σ_5 τ_2) (v := 0) S hr hlk hw dX12_row_27 ⟨rfl, rfl, rfl⟩
set_option maxHeartbeats 4000000 in
set_option maxRecDepth 100000 in
theorem c_X12_row (l : Launch) {E : gE} (N : Nat) (σ : gI) (τ : gJ) (x1 : Int32) {r : Int64} {σ1 : gI} {τ1 : gJ} (h : B_X12_row_0 N σ τ x1 = some (r, σ1, τ1)) : gx_Ml l yX12_row cX12_row 2 (some .long) 1 gx_tb E σ τ [.ref (E.2.2 + 199), .int x1] (gq_p r σ1 τ1) := by
  refine gx_bl (by decide +kernel) (Nat.le_of_ble_eq_true rfl) ?_
  intro P9 e9 s m9 below meth C9 S hr hlk hK hw ls hl
  have hl : lv_has ls 2 [(0, .ref (E.2.2 + 199)), (1, .int x1)] := hl
  exact b_X12_row_0 l S hr hlk hK N σ τ x1 h hw hl
/-! X12_rule -/
def C_X12_rule_61 (N : Nat) (rec_61 : gI → gJ → Int32 → Option (Int32 × gI × gJ)) (σ : gI) (τ : gJ) (x4 : Int32) : Option (Int32 × gI × gJ) := if σ 199 29 ≤ x4 then (some (0, σ, τ)) else (ck x4 80 fun j_2 => nm (up2 σ 216 j_2 (σ 217 j_2)) fun σ_3 => nm (x4 + 1) fun v_4 => rec_61 σ_3 τ v_4)
def H_X12_rule_61 (N : Nat) : Nat → gI → gJ → Int32 → Option (Int32 × gI × gJ) := itn (fun rec_61 => C_X12_rule_61 N rec_61) (fun _ _ _ => none)
def B_X12_rule_34 (N : Nat) (σ : gI) (τ : gJ) (x1 : Int32) (y0 : Int32) : Option (Int32 × gI × gJ) := bd (B_X12_faultOf_0 N σ τ x1 40 y0) fun r_1 σ_1 τ_1 => if 0 ≤ r_1 then (nm (up2 σ_1 199 28 (σ_1 199 29)) fun σ_3 => H_X12_rule_61 N N σ_3 τ_1 0) else (some (r_1, σ_1, τ_1))
def B_X12_rule_0 (N : Nat) (σ : gI) (τ : gJ) : Option (Int32 × gI × gJ) := nm (up2 σ 199 0 0) fun σ_1 => bd (B_X12_begins_0 N σ_1 τ 40) fun r_2 σ_2 τ_2 => nm (up2 σ_2 199 29 0) fun σ_3 => if r_2 = 0 then (B_X12_rule_34 N σ_3 τ_2 r_2 1) else (bd ((R_X12_reads N 100).2 σ_3 τ_2 0) fun r_5 σ_5 τ_5 => if r_5 = 0 then (B_X12_rule_34 N σ_5 τ_5 r_2 0) else (B_X12_rule_34 N σ_5 τ_5 r_2 1))
set_option maxHeartbeats 4000000 in
set_option maxRecDepth 100000 in
theorem k_X12_rule_61 (l : Launch) (S : CallFix P9 m9 C9 cX12_rule 5 s av.toArray gx_G RX12) (hr : meth.sig.returnType = (some .int)) (hlk : meth.locks = false) (hK : gx_K E s) (N : Nat) (rec_61 : gI → gJ → Int32 → Option (Int32 × gI × gJ)) (hrec_61 : ∀ (σ : gI) (τ : gJ) (x4 : Int32) (r : Int32) (σ1 : gI) (τ1 : gJ) (H : Heap) (locs : List Loc) (ls : Array Slot), rec_61 σ τ x4 = some (r, σ1, τ1) → gx_W gx_tb gx_tb.length E s σ τ H locs → lv_has ls 5 [(0, .ref (E.2.2 + 199)), (4, .int x4)] → W P9 l e9 (gx_rm 601) s m9 av.toArray below meth C9 H locs 0 0 (gq_Qi below av s E r σ1 τ1) (F0 m9 61 ls [])) (σ : gI) (τ : gJ) (x4 : Int32) {r : Int32} {σ1 : gI} {τ1 : gJ} (h : C_X12_rule_61 N rec_61 σ τ x4 = some (r, σ1, τ1)) {H : Heap} {locs : List Loc} {ls : Array Slot} (hw : gx_W gx_tb gx_tb.length E s σ τ H locs) (hl : lv_has ls 5 [(0, .ref (E.2.2 + 199)), (4, .int x4)]) : W P9 l e9 (gx_rm 601) s m9 av.toArray below meth C9 H locs 0 0 (gq_Qi below av s E r σ1 τ1) (F0 m9 61 ls []) := by
  have hx := S.1
  have hb := S.2.1
  unfold C_X12_rule_61 at h
  refine lv_iload hx hb dX12_rule_61 (lv_at hl 1 rfl) ?_
  refine lv_aload_n hx hb dX12_rule_63 rfl (lv_at hl 0 rfl) ?_
  refine gx_get S hK hw t_199 cl_13 29 (by decide) rfl mw_1443 rfl dX12_rule_64 ?_
  refine lv_icmp_ge (tgt := 90) hx hb dX12_rule_67 (by decide) (fun c_1 => ?_) (fun c_1 => ?_)
  · rw [if_pos c_1] at h
    refine lv_iconst (v := 0) hx hb dX12_rule_90 (by decide) ?_
    obtain ⟨rfl, rfl, rfl⟩ := sm_inj h
    exact gx_ri (post := gq_p 0 σ τ) (v := 0) S hr hlk hw rfl dX12_rule_91 ⟨rfl, rfl, rfl⟩
  · rw [if_neg c_1] at h
    refine lv_aload_n hx hb dX12_rule_70 rfl (lv_at hl 0 rfl) ?_
    refine gx_getr (j := 216) S hK hw t_199 cl_13 26 (by decide) rfl mw_1440 rfl dX12_rule_71 ?_
    refine lv_iload hx hb dX12_rule_74 (lv_at hl 1 rfl) ?_
    refine lv_aload_n hx hb dX12_rule_76 rfl (lv_at hl 0 rfl) ?_
    refine gx_getr (j := 217) S hK hw t_199 cl_13 27 (by decide) rfl mw_1441 rfl dX12_rule_77 ?_
    refine lv_iload hx hb dX12_rule_80 (lv_at hl 1 rfl) ?_
    obtain ⟨j_2, hj_2, hi_2, h⟩ := ck_some h
    refine gx_iald S hK hw t_217 j_2 hj_2 hi_2 dX12_rule_82 ?_
    refine gx_iast S hK gx_ok hw t_216 j_2 hj_2 hi_2 dX12_rule_83 (fun H locs hw => ?_)
    obtain ⟨σ_3, e_3, h⟩ := nm_some h
    rw [← e_3] at hw
    refine lv_iinc (v := x4 + 1) (lv' := [(4, .int (x4 + 1)), (0, .ref (E.2.2 + 199))]) hx hb dX12_rule_84 hl (k := 1) rfl rfl (by decide) rfl (fun ls hl => ?_)
    obtain ⟨v_4, e_4, h⟩ := nm_some h
    have hl : lv_has ls 5 [(4, .int v_4), (0, .ref (E.2.2 + 199))] := by rw [e_4]; exact hl
    refine lv_goto (tgt := 61) hx hb dX12_rule_87 (by decide) ?_
    exact hrec_61 σ_3 τ v_4 _ _ _ _ _ _ h hw (lv_sub hl [1, 0] rfl)
set_option maxHeartbeats 4000000 in
set_option maxRecDepth 100000 in
theorem h_X12_rule_61 (l : Launch) (S : CallFix P9 m9 C9 cX12_rule 5 s av.toArray gx_G RX12) (hr : meth.sig.returnType = (some .int)) (hlk : meth.locks = false) (hK : gx_K E s) (N : Nat) : ∀ (n : Nat) (σ : gI) (τ : gJ) (x4 : Int32) (r : Int32) (σ1 : gI) (τ1 : gJ), H_X12_rule_61 N n σ τ x4 = some (r, σ1, τ1) → ∀ (H : Heap) (locs : List Loc) (ls : Array Slot), gx_W gx_tb gx_tb.length E s σ τ H locs → lv_has ls 5 [(0, .ref (E.2.2 + 199)), (4, .int x4)] → W P9 l e9 (gx_rm 601) s m9 av.toArray below meth C9 H locs 0 0 (gq_Qi below av s E r σ1 τ1) (F0 m9 61 ls []) := by
  intro n
  induction n with
  | zero => intro σ τ x4 r σ1 τ1 h; cases h
  | succ n ih =>
    intro σ τ x4 r σ1 τ1 h H locs ls hw hl
    exact k_X12_rule_61 l S hr hlk hK N (H_X12_rule_61 N n) (fun σ τ x4 r σ1 τ1 H locs ls h hw hl => ih σ τ x4 r σ1 τ1 h H locs ls hw hl) σ τ x4 h hw hl
set_option maxHeartbeats 4000000 in
set_option maxRecDepth 100000 in
theorem b_X12_rule_34 (l : Launch) (S : CallFix P9 m9 C9 cX12_rule 5 s av.toArray gx_G RX12) (hr : meth.sig.returnType = (some .int)) (hlk : meth.locks = false) (hK : gx_K E s) (N : Nat) (σ : gI) (τ : gJ) (x1 : Int32) (y0 : Int32) {r : Int32} {σ1 : gI} {τ1 : gJ} (h : B_X12_rule_34 N σ τ x1 y0 = some (r, σ1, τ1)) {H : Heap} {locs : List Loc} {ls : Array Slot} (hw : gx_W gx_tb gx_tb.length E s σ τ H locs) (hl : lv_has ls 5 [(0, .ref (E.2.2 + 199)), (1, .int x1)]) : W P9 l e9 (gx_rm 601) s m9 av.toArray below meth C9 H locs 0 0 (gq_Qi below av s E r σ1 τ1) (F0 m9 34 ls [.int y0]) := by
  have hx := S.1
  have hb := S.2.1
  unfold B_X12_rule_34 at h
  refine lv_istore_n (lv' := [(2, .int y0), (0, .ref (E.2.2 + 199)), (1, .int x1)]) hx hb dX12_rule_34 rfl hl (by decide) rfl (fun ls hl => ?_)
  refine lv_aload_n hx hb dX12_rule_35 rfl (lv_at hl 1 rfl) ?_
  refine lv_iload_n hx hb dX12_rule_36 rfl (lv_at hl 2 rfl) ?_
  refine lv_bipush (v := 40) hx hb dX12_rule_37 (by decide) ?_
  refine lv_iload_n hx hb dX12_rule_39 rfl (lv_at hl 0 rfl) ?_
  obtain ⟨r_1, σ_1, τ_1, q_1, h⟩ := bd_some h
  refine gx_cVi (As := [.int x1, .int 40, .int y0]) (rest := []) S hK gx_ok hw (c_X12_faultOf l (E := E) N σ τ x1 40 y0 q_1) cw_X12_213 t_199 cl_13 ⟨Nat.le_of_ble_eq_true rfl, Nat.le_of_ble_eq_true rfl⟩ rfl hl.1 rfl (Nat.le_of_ble_eq_true rfl) ⟨Nat.le_of_ble_eq_true rfl, Nat.le_of_ble_eq_true rfl⟩ dX12_rule_40 (fun r9 σ9 τ9 H locs hp hw => ?_)
  obtain ⟨rfl, rfl, rfl⟩ := hp
  refine lv_istore_n (lv' := [(3, .int r_1), (2, .int y0), (0, .ref (E.2.2 + 199)), (1, .int x1)]) hx hb dX12_rule_43 rfl hl (by decide) rfl (fun ls hl => ?_)
  refine lv_iload_n hx hb dX12_rule_44 rfl (lv_at hl 0 rfl) ?_
  refine lv_if_ge (tgt := 50) hx hb dX12_rule_45 (by decide) (fun c_2 => ?_) (fun c_2 => ?_)
  · rw [if_pos c_2] at h
    refine lv_aload_n hx hb dX12_rule_50 rfl (lv_at hl 2 rfl) ?_
    refine lv_aload_n hx hb dX12_rule_51 rfl (lv_at hl 2 rfl) ?_
    refine gx_get S hK hw t_199 cl_13 29 (by decide) rfl mw_1443 rfl dX12_rule_52 ?_
    refine gx_put S hK gx_ok hw t_199 cl_13 28 (by decide) rfl mw_1442 rfl rfl (ty := .int) (v := σ_1 199 29) (by decide +kernel) rfl rfl dX12_rule_55 (fun H locs hw => ?_)
    obtain ⟨σ_3, e_3, h⟩ := nm_some h
    rw [← e_3] at hw
    refine lv_iconst (v := 0) hx hb dX12_rule_58 (by decide) ?_
    refine lv_istore (lv' := [(4, .int 0), (3, .int r_1), (2, .int y0), (0, .ref (E.2.2 + 199)), (1, .int x1)]) hx hb dX12_rule_59 hl (by decide) rfl (fun ls hl => ?_)
    exact h_X12_rule_61 l S hr hlk hK N N σ_3 τ_1 0 _ _ _ h _ _ _ hw (lv_sub hl [3, 0] rfl)
  · rw [if_neg c_2] at h
    refine lv_iload_n hx hb dX12_rule_48 rfl (lv_at hl 0 rfl) ?_
    obtain ⟨rfl, rfl, rfl⟩ := sm_inj h
    exact gx_ri (post := gq_p r_1 σ_1 τ_1) (v := r_1) S hr hlk hw rfl dX12_rule_49 ⟨rfl, rfl, rfl⟩
set_option maxHeartbeats 4000000 in
set_option maxRecDepth 100000 in
theorem b_X12_rule_0 (l : Launch) (S : CallFix P9 m9 C9 cX12_rule 5 s av.toArray gx_G RX12) (hr : meth.sig.returnType = (some .int)) (hlk : meth.locks = false) (hK : gx_K E s) (N : Nat) (σ : gI) (τ : gJ) {r : Int32} {σ1 : gI} {τ1 : gJ} (h : B_X12_rule_0 N σ τ = some (r, σ1, τ1)) {H : Heap} {locs : List Loc} {ls : Array Slot} (hw : gx_W gx_tb gx_tb.length E s σ τ H locs) (hl : lv_has ls 5 [(0, .ref (E.2.2 + 199))]) : W P9 l e9 (gx_rm 601) s m9 av.toArray below meth C9 H locs 0 0 (gq_Qi below av s E r σ1 τ1) (F0 m9 0 ls []) := by
  have hx := S.1
  have hb := S.2.1
  unfold B_X12_rule_0 at h
  refine lv_aload_n hx hb dX12_rule_0 rfl (lv_at hl 0 rfl) ?_
  refine lv_iconst (v := 0) hx hb dX12_rule_1 (by decide) ?_
  refine gx_put S hK gx_ok hw t_199 cl_13 0 (by decide) rfl mw_1414 rfl rfl (ty := .int) (v := 0) (by decide +kernel) rfl rfl dX12_rule_2 (fun H locs hw => ?_)
  obtain ⟨σ_1, e_1, h⟩ := nm_some h
  rw [← e_1] at hw
  refine lv_aload_n hx hb dX12_rule_5 rfl (lv_at hl 0 rfl) ?_
  refine lv_bipush (v := 40) hx hb dX12_rule_6 (by decide) ?_
  obtain ⟨r_2, σ_2, τ_2, q_2, h⟩ := bd_some h
  refine gx_cVi (As := [.int 40]) (rest := []) S hK gx_ok hw (c_X12_begins l (E := E) N σ_1 τ 40 q_2) cw_X12_203 t_199 cl_13 ⟨Nat.le_of_ble_eq_true rfl, Nat.le_of_ble_eq_true rfl⟩ rfl hl.1 rfl (Nat.le_of_ble_eq_true rfl) ⟨Nat.le_of_ble_eq_true rfl, Nat.le_of_ble_eq_true rfl⟩ dX12_rule_8 (fun r9 σ9 τ9 H locs hp hw => ?_)
  obtain ⟨rfl, rfl, rfl⟩ := hp
  refine lv_istore_n (lv' := [(1, .int r_2), (0, .ref (E.2.2 + 199))]) hx hb dX12_rule_11 rfl hl (by decide) rfl (fun ls hl => ?_)
  refine lv_aload_n hx hb dX12_rule_12 rfl (lv_at hl 1 rfl) ?_
  refine lv_iconst (v := 0) hx hb dX12_rule_13 (by decide) ?_
  refine gx_put S hK gx_ok hw t_199 cl_13 29 (by decide) rfl mw_1443 rfl rfl (ty := .int) (v := 0) (by decide +kernel) rfl rfl dX12_rule_14 (fun H locs hw => ?_)
  obtain ⟨σ_3, e_3, h⟩ := nm_some h
  rw [← e_3] at hw
  refine lv_iload_n hx hb dX12_rule_17 rfl (lv_at hl 0 rfl) ?_
  refine lv_if_eq (tgt := 29) hx hb dX12_rule_18 (by decide) (fun c_4 => ?_) (fun c_4 => ?_)
  · rw [if_pos c_4] at h
    refine lv_iconst (v := 1) hx hb dX12_rule_29 (by decide) ?_
    refine lv_goto (tgt := 34) hx hb dX12_rule_30 (by decide) ?_
    exact b_X12_rule_34 l S hr hlk hK N σ_3 τ_2 r_2 1 h hw (lv_sub hl [1, 0] rfl)
  · rw [if_neg c_4] at h
    refine lv_aload_n hx hb dX12_rule_21 rfl (lv_at hl 1 rfl) ?_
    refine lv_iconst (v := 0) hx hb dX12_rule_22 (by decide) ?_
    obtain ⟨r_5, σ_5, τ_5, q_5, h⟩ := bd_some h
    refine gx_cVi (As := [.int 0]) (rest := []) S hK gx_ok hw ((c_X12_reads l (E := E) N 100).2 σ_3 τ_2 0 _ _ _ q_5) cw_X12_243 t_199 cl_13 ⟨Nat.le_of_ble_eq_true rfl, Nat.le_of_ble_eq_true rfl⟩ rfl hl.1 rfl (Nat.le_of_ble_eq_true rfl) ⟨Nat.le_of_ble_eq_true rfl, Nat.le_of_ble_eq_true rfl⟩ dX12_rule_23 (fun r9 σ9 τ9 H locs hp hw => ?_)
    obtain ⟨rfl, rfl, rfl⟩ := hp
    refine lv_if_eq (tgt := 33) hx hb dX12_rule_26 (by decide) (fun c_6 => ?_) (fun c_6 => ?_)
    · rw [if_pos c_6] at h
      refine lv_iconst (v := 0) hx hb dX12_rule_33 (by decide) ?_
      exact b_X12_rule_34 l S hr hlk hK N σ_5 τ_5 r_2 0 h hw (lv_sub hl [1, 0] rfl)
    · rw [if_neg c_6] at h
      refine lv_iconst (v := 1) hx hb dX12_rule_29 (by decide) ?_
      refine lv_goto (tgt := 34) hx hb dX12_rule_30 (by decide) ?_
      exact b_X12_rule_34 l S hr hlk hK N σ_5 τ_5 r_2 1 h hw (lv_sub hl [1, 0] rfl)
set_option maxHeartbeats 4000000 in
set_option maxRecDepth 100000 in
theorem c_X12_rule (l : Launch) {E : gE} (N : Nat) (σ : gI) (τ : gJ) {r : Int32} {σ1 : gI} {τ1 : gJ} (h : B_X12_rule_0 N σ τ = some (r, σ1, τ1)) : gx_Mi l yX12_rule cX12_rule 5 (some .int) 601 gx_tb E σ τ [.ref (E.2.2 + 199)] (gq_p r σ1 τ1) := by
  refine gx_bi (by decide +kernel) (Nat.le_of_ble_eq_true rfl) ?_
  intro P9 e9 s m9 below meth C9 S hr hlk hK hw ls hl
  have hl : lv_has ls 5 [(0, .ref (E.2.2 + 199))] := hl
  exact b_X12_rule_0 l S hr hlk hK N σ τ h hw hl
/-! X12_run -/
def C_X12_run_44 (N : Nat) (rec_44 : gI → gJ → Int32 → Int32 → Int32 → Int32 → Option (Int32 × gI × gJ)) (σ : gI) (τ : gJ) (x1 : Int32) (x2 : Int32) (x3 : Int32) (x4 : Int32) : Option (Int32 × gI × gJ) := if x1 ≤ x4 then (nm (up2 σ 199 1 0) fun σ_2 => bd (B_X12_thoseHow_0 N 206 σ_2 τ 1) fun r_3 σ_3 τ_3 => bd (B_X12_enters_0 N σ_3 τ_3 ((r_3 &&& (x2 ^^^ (-1))).toInt64)) fun _ σ_4 τ_4 => bd (B_X12_thoseHow_0 N 206 σ_4 τ_4 2) fun r_5 σ_5 τ_5 => bd (B_X12_enters_0 N σ_5 τ_5 ((r_5 &&& (x3 ^^^ (-1))).toInt64)) fun _ σ_6 τ_6 => bd (B_X12_thoseHow_0 N 206 σ_6 τ_6 1) fun r_7 σ_7 τ_7 => bd (B_J6_bitCount_0f7a4_0 N σ_7 τ_7 (r_7 &&& (x2 ^^^ (-1)))) fun r_8 σ_8 τ_8 => if x1 ≤ 0 then (some (r_8, σ_8, τ_8)) else (bd (B_X12_adds_0 N σ_8 τ_8 r_8) fun r_10 σ_10 τ_10 => some (r_10, σ_10, τ_10))) else (bd (B_X12_minuteGoes_0 N 206 σ τ) fun _ σ_11 τ_11 => nm (x4 + 1) fun v_12 => rec_44 σ_11 τ_11 x1 x2 x3 v_12)
def H_X12_run_44 (N : Nat) : Nat → gI → gJ → Int32 → Int32 → Int32 → Int32 → Option (Int32 × gI × gJ) := itn (fun rec_44 => C_X12_run_44 N rec_44) (fun _ _ _ _ _ _ => none)
def B_X12_run_0 (N : Nat) (σ : gI) (τ : gJ) (x1 : Int32) : Option (Int32 × gI × gJ) := nm (up2 σ 199 0 0) fun σ_1 => bd (B_X12_in_0 N σ_1 τ x1.toInt64 0 99) fun r_2 σ_2 τ_2 => if r_2 = 0 then (some ((-1), σ_2, τ_2)) else (bd (B_X12_putsBy_0 N σ_2 τ_2) fun _ σ_4 τ_4 => bd (B_X12_thoseHow_0 N 206 σ_4 τ_4 1) fun r_5 σ_5 τ_5 => bd (B_X12_thoseHow_0 N 206 σ_5 τ_5 2) fun r_6 σ_6 τ_6 => H_X12_run_44 N N σ_6 τ_6 x1 r_5 r_6 0)
set_option maxHeartbeats 4000000 in
set_option maxRecDepth 100000 in
theorem k_X12_run_44 (l : Launch) (S : CallFix P9 m9 C9 cX12_run 5 s av.toArray gx_G RX12) (hr : meth.sig.returnType = (some .int)) (hlk : meth.locks = false) (hK : gx_K E s) (N : Nat) (rec_44 : gI → gJ → Int32 → Int32 → Int32 → Int32 → Option (Int32 × gI × gJ)) (hrec_44 : ∀ (σ : gI) (τ : gJ) (x1 : Int32) (x2 : Int32) (x3 : Int32) (x4 : Int32) (r : Int32) (σ1 : gI) (τ1 : gJ) (H : Heap) (locs : List Loc) (ls : Array Slot), rec_44 σ τ x1 x2 x3 x4 = some (r, σ1, τ1) → gx_W gx_tb gx_tb.length E s σ τ H locs → lv_has ls 5 [(0, .ref (E.2.2 + 199)), (1, .int x1), (2, .int x2), (3, .int x3), (4, .int x4)] → W P9 l e9 (gx_rm 6) s m9 av.toArray below meth C9 H locs 0 0 (gq_Qi below av s E r σ1 τ1) (F0 m9 44 ls [])) (σ : gI) (τ : gJ) (x1 : Int32) (x2 : Int32) (x3 : Int32) (x4 : Int32) {r : Int32} {σ1 : gI} {τ1 : gJ} (h : C_X12_run_44 N rec_44 σ τ x1 x2 x3 x4 = some (r, σ1, τ1)) {H : Heap} {locs : List Loc} {ls : Array Slot} (hw : gx_W gx_tb gx_tb.length E s σ τ H locs) (hl : lv_has ls 5 [(0, .ref (E.2.2 + 199)), (1, .int x1), (2, .int x2), (3, .int x3), (4, .int x4)]) : W P9 l e9 (gx_rm 6) s m9 av.toArray below meth C9 H locs 0 0 (gq_Qi below av s E r σ1 τ1) (F0 m9 44 ls []) := by
  have hx := S.1
  have hb := S.2.1
  unfold C_X12_run_44 at h
  refine lv_iload hx hb dX12_run_44 (lv_at hl 4 rfl) ?_
  refine lv_iload_n hx hb dX12_run_46 rfl (lv_at hl 1 rfl) ?_
  refine lv_icmp_ge (tgt := 64) hx hb dX12_run_47 (by decide) (fun c_1 => ?_) (fun c_1 => ?_)
  · rw [if_pos c_1] at h
    refine lv_aload_n hx hb dX12_run_64 rfl (lv_at hl 0 rfl) ?_
    refine lv_iconst (v := 0) hx hb dX12_run_65 (by decide) ?_
    refine gx_put S hK gx_ok hw t_199 cl_13 1 (by decide) rfl mw_1415 rfl rfl (ty := .int) (v := 0) (by decide +kernel) rfl rfl dX12_run_66 (fun H locs hw => ?_)
    obtain ⟨σ_2, e_2, h⟩ := nm_some h
    rw [← e_2] at hw
    refine lv_aload_n hx hb dX12_run_69 rfl (lv_at hl 0 rfl) ?_
    refine lv_aload_n hx hb dX12_run_70 rfl (lv_at hl 0 rfl) ?_
    refine gx_getr (j := 206) S hK hw t_199 cl_13 10 (by decide) rfl mw_1424 rfl dX12_run_71 ?_
    refine lv_iconst (v := 1) hx hb dX12_run_74 (by decide) ?_
    obtain ⟨r_3, σ_3, τ_3, q_3, h⟩ := bd_some h
    refine gx_cSi (As := [.ref (E.2.2 + 206), .int 1]) (rest := [.ref (E.2.2 + 199)]) S hK gx_ok hw (c_X12_thoseHow l (E := E) N 206 t_206 σ_2 τ 1 q_3) cw_X12_346 ⟨Nat.le_of_ble_eq_true rfl, Nat.le_of_ble_eq_true rfl⟩ rfl hl.1 rfl (Nat.le_of_ble_eq_true rfl) ⟨Nat.le_of_ble_eq_true rfl, Nat.le_of_ble_eq_true rfl⟩ dX12_run_75 (fun r9 σ9 τ9 H locs hp hw => ?_)
    obtain ⟨rfl, rfl, rfl⟩ := hp
    refine lv_iload_n hx hb dX12_run_78 rfl (lv_at hl 2 rfl) ?_
    refine lv_iconst (v := (-1)) hx hb dX12_run_79 (by decide) ?_
    refine lv_ixor hx hb dX12_run_80 ?_
    refine lv_iand hx hb dX12_run_81 ?_
    refine lv_i2l (v := (r_3 &&& (x2 ^^^ (-1))).toInt64) hx hb dX12_run_82 rfl ?_
    obtain ⟨u_4, σ_4, τ_4, q_4, h⟩ := bd_some h
    refine gx_cVv (As := [.long ((r_3 &&& (x2 ^^^ (-1))).toInt64)]) (rest := []) S hK gx_ok hw (c_X12_enters l (E := E) N σ_3 τ_3 ((r_3 &&& (x2 ^^^ (-1))).toInt64) q_4) cw_X12_122 t_199 cl_13 ⟨Nat.le_of_ble_eq_true rfl, Nat.le_of_ble_eq_true rfl⟩ rfl hl.1 rfl (Nat.le_of_ble_eq_true rfl) ⟨Nat.le_of_ble_eq_true rfl, Nat.le_of_ble_eq_true rfl⟩ dX12_run_83 (fun σ9 τ9 H locs hp hw => ?_)
    obtain ⟨rfl, rfl⟩ := hp
    refine lv_aload_n hx hb dX12_run_86 rfl (lv_at hl 0 rfl) ?_
    refine lv_aload_n hx hb dX12_run_87 rfl (lv_at hl 0 rfl) ?_
    refine gx_getr (j := 206) S hK hw t_199 cl_13 10 (by decide) rfl mw_1424 rfl dX12_run_88 ?_
    refine lv_iconst (v := 2) hx hb dX12_run_91 (by decide) ?_
    obtain ⟨r_5, σ_5, τ_5, q_5, h⟩ := bd_some h
    refine gx_cSi (As := [.ref (E.2.2 + 206), .int 2]) (rest := [.ref (E.2.2 + 199)]) S hK gx_ok hw (c_X12_thoseHow l (E := E) N 206 t_206 σ_4 τ_4 2 q_5) cw_X12_346 ⟨Nat.le_of_ble_eq_true rfl, Nat.le_of_ble_eq_true rfl⟩ rfl hl.1 rfl (Nat.le_of_ble_eq_true rfl) ⟨Nat.le_of_ble_eq_true rfl, Nat.le_of_ble_eq_true rfl⟩ dX12_run_92 (fun r9 σ9 τ9 H locs hp hw => ?_)
    obtain ⟨rfl, rfl, rfl⟩ := hp
    refine lv_iload_n hx hb dX12_run_95 rfl (lv_at hl 3 rfl) ?_
    refine lv_iconst (v := (-1)) hx hb dX12_run_96 (by decide) ?_
    refine lv_ixor hx hb dX12_run_97 ?_
    refine lv_iand hx hb dX12_run_98 ?_
    refine lv_i2l (v := (r_5 &&& (x3 ^^^ (-1))).toInt64) hx hb dX12_run_99 rfl ?_
    obtain ⟨u_6, σ_6, τ_6, q_6, h⟩ := bd_some h
    refine gx_cVv (As := [.long ((r_5 &&& (x3 ^^^ (-1))).toInt64)]) (rest := []) S hK gx_ok hw (c_X12_enters l (E := E) N σ_5 τ_5 ((r_5 &&& (x3 ^^^ (-1))).toInt64) q_6) cw_X12_122 t_199 cl_13 ⟨Nat.le_of_ble_eq_true rfl, Nat.le_of_ble_eq_true rfl⟩ rfl hl.1 rfl (Nat.le_of_ble_eq_true rfl) ⟨Nat.le_of_ble_eq_true rfl, Nat.le_of_ble_eq_true rfl⟩ dX12_run_100 (fun σ9 τ9 H locs hp hw => ?_)
    obtain ⟨rfl, rfl⟩ := hp
    refine lv_aload_n hx hb dX12_run_103 rfl (lv_at hl 0 rfl) ?_
    refine gx_getr (j := 206) S hK hw t_199 cl_13 10 (by decide) rfl mw_1424 rfl dX12_run_104 ?_
    refine lv_iconst (v := 1) hx hb dX12_run_107 (by decide) ?_
    obtain ⟨r_7, σ_7, τ_7, q_7, h⟩ := bd_some h
    refine gx_cSi (As := [.ref (E.2.2 + 206), .int 1]) (rest := []) S hK gx_ok hw (c_X12_thoseHow l (E := E) N 206 t_206 σ_6 τ_6 1 q_7) cw_X12_346 ⟨Nat.le_of_ble_eq_true rfl, Nat.le_of_ble_eq_true rfl⟩ rfl hl.1 rfl (Nat.le_of_ble_eq_true rfl) ⟨Nat.le_of_ble_eq_true rfl, Nat.le_of_ble_eq_true rfl⟩ dX12_run_108 (fun r9 σ9 τ9 H locs hp hw => ?_)
    obtain ⟨rfl, rfl, rfl⟩ := hp
    refine lv_iload_n hx hb dX12_run_111 rfl (lv_at hl 2 rfl) ?_
    refine lv_iconst (v := (-1)) hx hb dX12_run_112 (by decide) ?_
    refine lv_ixor hx hb dX12_run_113 ?_
    refine lv_iand hx hb dX12_run_114 ?_
    obtain ⟨r_8, σ_8, τ_8, q_8, h⟩ := bd_some h
    refine gx_cSi (As := [.int (r_7 &&& (x2 ^^^ (-1)))]) (rest := []) S hK gx_ok hw (c_J6_bitCount_0f7a4 l (E := E) N σ_7 τ_7 (r_7 &&& (x2 ^^^ (-1))) q_8) cw_X12_353 ⟨Nat.le_of_ble_eq_true rfl, Nat.le_of_ble_eq_true rfl⟩ rfl hl.1 rfl (Nat.le_of_ble_eq_true rfl) ⟨Nat.le_of_ble_eq_true rfl, Nat.le_of_ble_eq_true rfl⟩ dX12_run_115 (fun r9 σ9 τ9 H locs hp hw => ?_)
    obtain ⟨rfl, rfl, rfl⟩ := hp
    refine lv_istore (lv' := [(4, .int r_8), (0, .ref (E.2.2 + 199)), (1, .int x1), (2, .int x2), (3, .int x3)]) hx hb dX12_run_118 hl (by decide) rfl (fun ls hl => ?_)
    refine lv_iload_n hx hb dX12_run_120 rfl (lv_at hl 2 rfl) ?_
    refine lv_if_le (tgt := 133) hx hb dX12_run_121 (by decide) (fun c_9 => ?_) (fun c_9 => ?_)
    · rw [if_pos c_9] at h
      refine lv_iload hx hb dX12_run_133 (lv_at hl 0 rfl) ?_
      obtain ⟨rfl, rfl, rfl⟩ := sm_inj h
      exact gx_ri (post := gq_p r_8 σ_8 τ_8) (v := r_8) S hr hlk hw rfl dX12_run_135 ⟨rfl, rfl, rfl⟩
    · rw [if_neg c_9] at h
      refine lv_aload_n hx hb dX12_run_124 rfl (lv_at hl 1 rfl) ?_
      refine lv_iload hx hb dX12_run_125 (lv_at hl 0 rfl) ?_
      obtain ⟨r_10, σ_10, τ_10, q_10, h⟩ := bd_some h
      refine gx_cVi (As := [.int r_8]) (rest := []) S hK gx_ok hw (c_X12_adds l (E := E) N σ_8 τ_8 r_8 q_10) cw_X12_322 t_199 cl_13 ⟨Nat.le_of_ble_eq_true rfl, Nat.le_of_ble_eq_true rfl⟩ rfl hl.1 rfl (Nat.le_of_ble_eq_true rfl) ⟨Nat.le_of_ble_eq_true rfl, Nat.le_of_ble_eq_true rfl⟩ dX12_run_127 (fun r9 σ9 τ9 H locs hp hw => ?_)
      obtain ⟨rfl, rfl, rfl⟩ := hp
      refine lv_goto (tgt := 135) hx hb dX12_run_130 (by decide) ?_
      obtain ⟨rfl, rfl, rfl⟩ := sm_inj h
      exact gx_ri (post := gq_p r_10 σ_10 τ_10) (v := r_10) S hr hlk hw rfl dX12_run_135 ⟨rfl, rfl, rfl⟩
  · rw [if_neg c_1] at h
    refine lv_aload_n hx hb dX12_run_50 rfl (lv_at hl 0 rfl) ?_
    refine lv_aload_n hx hb dX12_run_51 rfl (lv_at hl 0 rfl) ?_
    refine gx_getr (j := 206) S hK hw t_199 cl_13 10 (by decide) rfl mw_1424 rfl dX12_run_52 ?_
    obtain ⟨u_11, σ_11, τ_11, q_11, h⟩ := bd_some h
    refine gx_cVv (As := [.ref (E.2.2 + 206)]) (rest := []) S hK gx_ok hw (c_X12_minuteGoes l (E := E) N 206 t_206 σ τ q_11) cw_X12_349 t_199 cl_13 ⟨Nat.le_of_ble_eq_true rfl, Nat.le_of_ble_eq_true rfl⟩ rfl hl.1 rfl (Nat.le_of_ble_eq_true rfl) ⟨Nat.le_of_ble_eq_true rfl, Nat.le_of_ble_eq_true rfl⟩ dX12_run_55 (fun σ9 τ9 H locs hp hw => ?_)
    obtain ⟨rfl, rfl⟩ := hp
    refine lv_iinc (v := x4 + 1) (lv' := [(4, .int (x4 + 1)), (0, .ref (E.2.2 + 199)), (1, .int x1), (2, .int x2), (3, .int x3)]) hx hb dX12_run_58 hl (k := 4) rfl rfl (by decide) rfl (fun ls hl => ?_)
    obtain ⟨v_12, e_12, h⟩ := nm_some h
    have hl : lv_has ls 5 [(4, .int v_12), (0, .ref (E.2.2 + 199)), (1, .int x1), (2, .int x2), (3, .int x3)] := by rw [e_12]; exact hl
    refine lv_goto (tgt := 44) hx hb dX12_run_61 (by decide) ?_
    exact hrec_44 σ_11 τ_11 x1 x2 x3 v_12 _ _ _ _ _ _ h hw (lv_sub hl [1, 2, 3, 4, 0] rfl)
set_option maxHeartbeats 4000000 in
set_option maxRecDepth 100000 in
theorem h_X12_run_44 (l : Launch) (S : CallFix P9 m9 C9 cX12_run 5 s av.toArray gx_G RX12) (hr : meth.sig.returnType = (some .int)) (hlk : meth.locks = false) (hK : gx_K E s) (N : Nat) : ∀ (n : Nat) (σ : gI) (τ : gJ) (x1 : Int32) (x2 : Int32) (x3 : Int32) (x4 : Int32) (r : Int32) (σ1 : gI) (τ1 : gJ), H_X12_run_44 N n σ τ x1 x2 x3 x4 = some (r, σ1, τ1) → ∀ (H : Heap) (locs : List Loc) (ls : Array Slot), gx_W gx_tb gx_tb.length E s σ τ H locs → lv_has ls 5 [(0, .ref (E.2.2 + 199)), (1, .int x1), (2, .int x2), (3, .int x3), (4, .int x4)] → W P9 l e9 (gx_rm 6) s m9 av.toArray below meth C9 H locs 0 0 (gq_Qi below av s E r σ1 τ1) (F0 m9 44 ls []) := by
  intro n
  induction n with
  | zero => intro σ τ x1 x2 x3 x4 r σ1 τ1 h; cases h
  | succ n ih =>
    intro σ τ x1 x2 x3 x4 r σ1 τ1 h H locs ls hw hl
    exact k_X12_run_44 l S hr hlk hK N (H_X12_run_44 N n) (fun σ τ x1 x2 x3 x4 r σ1 τ1 H locs ls h hw hl => ih σ τ x1 x2 x3 x4 r σ1 τ1 h H locs ls hw hl) σ τ x1 x2 x3 x4 h hw hl
set_option maxHeartbeats 4000000 in
set_option maxRecDepth 100000 in
theorem b_X12_run_0 (l : Launch) (S : CallFix P9 m9 C9 cX12_run 5 s av.toArray gx_G RX12) (hr : meth.sig.returnType = (some .int)) (hlk : meth.locks = false) (hK : gx_K E s) (N : Nat) (σ : gI) (τ : gJ) (x1 : Int32) {r : Int32} {σ1 : gI} {τ1 : gJ} (h : B_X12_run_0 N σ τ x1 = some (r, σ1, τ1)) {H : Heap} {locs : List Loc} {ls : Array Slot} (hw : gx_W gx_tb gx_tb.length E s σ τ H locs) (hl : lv_has ls 5 [(0, .ref (E.2.2 + 199)), (1, .int x1)]) : W P9 l e9 (gx_rm 6) s m9 av.toArray below meth C9 H locs 0 0 (gq_Qi below av s E r σ1 τ1) (F0 m9 0 ls []) := by
  have hx := S.1
  have hb := S.2.1
  unfold B_X12_run_0 at h
  refine lv_aload_n hx hb dX12_run_0 rfl (lv_at hl 0 rfl) ?_
  refine lv_iconst (v := 0) hx hb dX12_run_1 (by decide) ?_
  refine gx_put S hK gx_ok hw t_199 cl_13 0 (by decide) rfl mw_1414 rfl rfl (ty := .int) (v := 0) (by decide +kernel) rfl rfl dX12_run_2 (fun H locs hw => ?_)
  obtain ⟨σ_1, e_1, h⟩ := nm_some h
  rw [← e_1] at hw
  refine lv_iload_n hx hb dX12_run_5 rfl (lv_at hl 1 rfl) ?_
  refine lv_i2l (v := x1.toInt64) hx hb dX12_run_6 rfl ?_
  refine lv_lconst (v := 0) hx hb dX12_run_7 (by decide) ?_
  refine lv_ldc2 (v := 99) hx hb S.2.2.2.1 (S.2.2.2.2 _ mw_1853) dX12_run_8 ?_
  obtain ⟨r_2, σ_2, τ_2, q_2, h⟩ := bd_some h
  refine gx_cSi (As := [.long x1.toInt64, .long 0, .long 99]) (rest := []) S hK gx_ok hw (c_X12_in l (E := E) N σ_1 τ x1.toInt64 0 99 q_2) cw_X12_129 ⟨Nat.le_of_ble_eq_true rfl, Nat.le_of_ble_eq_true rfl⟩ rfl hl.1 rfl (Nat.le_of_ble_eq_true rfl) ⟨Nat.le_of_ble_eq_true rfl, Nat.le_of_ble_eq_true rfl⟩ dX12_run_11 (fun r9 σ9 τ9 H locs hp hw => ?_)
  obtain ⟨rfl, rfl, rfl⟩ := hp
  refine lv_if_ne (tgt := 19) hx hb dX12_run_14 (by decide) (fun c_3 => ?_) (fun c_3 => ?_)
  · rw [if_neg c_3] at h
    refine lv_aload_n hx hb dX12_run_19 rfl (lv_at hl 0 rfl) ?_
    obtain ⟨u_4, σ_4, τ_4, q_4, h⟩ := bd_some h
    refine gx_cVv (As := []) (rest := []) S hK gx_ok hw (c_X12_putsBy l (E := E) N σ_2 τ_2 q_4) cw_X12_319 t_199 cl_13 ⟨Nat.le_of_ble_eq_true rfl, Nat.le_of_ble_eq_true rfl⟩ rfl hl.1 rfl (Nat.le_of_ble_eq_true rfl) ⟨Nat.le_of_ble_eq_true rfl, Nat.le_of_ble_eq_true rfl⟩ dX12_run_20 (fun σ9 τ9 H locs hp hw => ?_)
    obtain ⟨rfl, rfl⟩ := hp
    refine lv_aload_n hx hb dX12_run_23 rfl (lv_at hl 0 rfl) ?_
    refine gx_getr (j := 206) S hK hw t_199 cl_13 10 (by decide) rfl mw_1424 rfl dX12_run_24 ?_
    refine lv_iconst (v := 1) hx hb dX12_run_27 (by decide) ?_
    obtain ⟨r_5, σ_5, τ_5, q_5, h⟩ := bd_some h
    refine gx_cSi (As := [.ref (E.2.2 + 206), .int 1]) (rest := []) S hK gx_ok hw (c_X12_thoseHow l (E := E) N 206 t_206 σ_4 τ_4 1 q_5) cw_X12_346 ⟨Nat.le_of_ble_eq_true rfl, Nat.le_of_ble_eq_true rfl⟩ rfl hl.1 rfl (Nat.le_of_ble_eq_true rfl) ⟨Nat.le_of_ble_eq_true rfl, Nat.le_of_ble_eq_true rfl⟩ dX12_run_28 (fun r9 σ9 τ9 H locs hp hw => ?_)
    obtain ⟨rfl, rfl, rfl⟩ := hp
    refine lv_istore_n (lv' := [(2, .int r_5), (0, .ref (E.2.2 + 199)), (1, .int x1)]) hx hb dX12_run_31 rfl hl (by decide) rfl (fun ls hl => ?_)
    refine lv_aload_n hx hb dX12_run_32 rfl (lv_at hl 1 rfl) ?_
    refine gx_getr (j := 206) S hK hw t_199 cl_13 10 (by decide) rfl mw_1424 rfl dX12_run_33 ?_
    refine lv_iconst (v := 2) hx hb dX12_run_36 (by decide) ?_
    obtain ⟨r_6, σ_6, τ_6, q_6, h⟩ := bd_some h
    refine gx_cSi (As := [.ref (E.2.2 + 206), .int 2]) (rest := []) S hK gx_ok hw (c_X12_thoseHow l (E := E) N 206 t_206 σ_5 τ_5 2 q_6) cw_X12_346 ⟨Nat.le_of_ble_eq_true rfl, Nat.le_of_ble_eq_true rfl⟩ rfl hl.1 rfl (Nat.le_of_ble_eq_true rfl) ⟨Nat.le_of_ble_eq_true rfl, Nat.le_of_ble_eq_true rfl⟩ dX12_run_37 (fun r9 σ9 τ9 H locs hp hw => ?_)
    obtain ⟨rfl, rfl, rfl⟩ := hp
    refine lv_istore_n (lv' := [(3, .int r_6), (2, .int r_5), (0, .ref (E.2.2 + 199)), (1, .int x1)]) hx hb dX12_run_40 rfl hl (by decide) rfl (fun ls hl => ?_)
    refine lv_iconst (v := 0) hx hb dX12_run_41 (by decide) ?_
    refine lv_istore (lv' := [(4, .int 0), (3, .int r_6), (2, .int r_5), (0, .ref (E.2.2 + 199)), (1, .int x1)]) hx hb dX12_run_42 hl (by decide) rfl (fun ls hl => ?_)
    exact h_X12_run_44 l S hr hlk hK N N σ_6 τ_6 x1 r_5 r_6 0 _ _ _ h _ _ _ hw (lv_sub hl [3, 4, 2, 1, 0] rfl)
  · rw [if_pos c_3] at h
    refine lv_iconst (v := (-1)) hx hb dX12_run_17 (by decide) ?_
    obtain ⟨rfl, rfl, rfl⟩ := sm_inj h
    exact gx_ri (post := gq_p (-1) σ_2 τ_2) (v := (-1)) S hr hlk hw rfl dX12_run_18 ⟨rfl, rfl, rfl⟩
set_option maxHeartbeats 4000000 in
set_option maxRecDepth 100000 in
theorem c_X12_run (l : Launch) {E : gE} (N : Nat) (σ : gI) (τ : gJ) (x1 : Int32) {r : Int32} {σ1 : gI} {τ1 : gJ} (h : B_X12_run_0 N σ τ x1 = some (r, σ1, τ1)) : gx_Mi l yX12_run cX12_run 5 (some .int) 6 gx_tb E σ τ [.ref (E.2.2 + 199), .int x1] (gq_p r σ1 τ1) := by
  refine gx_bi (by decide +kernel) (Nat.le_of_ble_eq_true rfl) ?_
  intro P9 e9 s m9 below meth C9 S hr hlk hK hw ls hl
  have hl : lv_has ls 5 [(0, .ref (E.2.2 + 199)), (1, .int x1)] := hl
  exact b_X12_run_0 l S hr hlk hK N σ τ x1 h hw hl
/-! X12_sail -/
def B_X12_sail_0 (N : Nat) (σ : gI) (τ : gJ) (x1 : Int32) (x2 : Int32) (x3 : Int32) (x4 : Int32) (x5 : Int32) : Option (Int32 × gI × gJ) := nm (up2 σ 199 0 0) fun σ_1 => bd (B_X12_canSail_0 N σ_1 τ x1 x2 x3 x5) fun r_2 σ_2 τ_2 => if r_2 = 0 then (some ((-1), σ_2, τ_2)) else (bd (B_X12_in_0 N σ_2 τ_2 x4.toInt64 0 99) fun r_4 σ_4 τ_4 => if r_4 = 0 then (some ((-1), σ_4, τ_4)) else (bd (B_X12_thinksNow_0 N σ_4 τ_4) fun _ σ_6 τ_6 => bd (B_X12_sails_0 N σ_6 τ_6 x1 x2 x3 x4 x5) fun r_7 σ_7 τ_7 => some (r_7, σ_7, τ_7)))
set_option maxHeartbeats 4000000 in
set_option maxRecDepth 100000 in
theorem b_X12_sail_0 (l : Launch) (S : CallFix P9 m9 C9 cX12_sail 6 s av.toArray gx_G RX12) (hr : meth.sig.returnType = (some .int)) (hlk : meth.locks = false) (hK : gx_K E s) (N : Nat) (σ : gI) (τ : gJ) (x1 : Int32) (x2 : Int32) (x3 : Int32) (x4 : Int32) (x5 : Int32) {r : Int32} {σ1 : gI} {τ1 : gJ} (h : B_X12_sail_0 N σ τ x1 x2 x3 x4 x5 = some (r, σ1, τ1)) {H : Heap} {locs : List Loc} {ls : Array Slot} (hw : gx_W gx_tb gx_tb.length E s σ τ H locs) (hl : lv_has ls 6 [(0, .ref (E.2.2 + 199)), (1, .int x1), (2, .int x2), (3, .int x3), (4, .int x4), (5, .int x5)]) : W P9 l e9 (gx_rm 9) s m9 av.toArray below meth C9 H locs 0 0 (gq_Qi below av s E r σ1 τ1) (F0 m9 0 ls []) := by
  have hx := S.1
  have hb := S.2.1
  unfold B_X12_sail_0 at h
  refine lv_aload_n hx hb dX12_sail_0 rfl (lv_at hl 0 rfl) ?_
  refine lv_iconst (v := 0) hx hb dX12_sail_1 (by decide) ?_
  refine gx_put S hK gx_ok hw t_199 cl_13 0 (by decide) rfl mw_1414 rfl rfl (ty := .int) (v := 0) (by decide +kernel) rfl rfl dX12_sail_2 (fun H locs hw => ?_)
  obtain ⟨σ_1, e_1, h⟩ := nm_some h
  rw [← e_1] at hw
  refine lv_aload_n hx hb dX12_sail_5 rfl (lv_at hl 0 rfl) ?_
  refine lv_iload_n hx hb dX12_sail_6 rfl (lv_at hl 1 rfl) ?_
  refine lv_iload_n hx hb dX12_sail_7 rfl (lv_at hl 2 rfl) ?_
  refine lv_iload_n hx hb dX12_sail_8 rfl (lv_at hl 3 rfl) ?_
  refine lv_iload hx hb dX12_sail_9 (lv_at hl 5 rfl) ?_
  obtain ⟨r_2, σ_2, τ_2, q_2, h⟩ := bd_some h
  refine gx_cVi (As := [.int x1, .int x2, .int x3, .int x5]) (rest := []) S hK gx_ok hw (c_X12_canSail l (E := E) N σ_1 τ x1 x2 x3 x5 q_2) cw_X12_405 t_199 cl_13 ⟨Nat.le_of_ble_eq_true rfl, Nat.le_of_ble_eq_true rfl⟩ rfl hl.1 rfl (Nat.le_of_ble_eq_true rfl) ⟨Nat.le_of_ble_eq_true rfl, Nat.le_of_ble_eq_true rfl⟩ dX12_sail_11 (fun r9 σ9 τ9 H locs hp hw => ?_)
  obtain ⟨rfl, rfl, rfl⟩ := hp
  refine lv_if_eq (tgt := 30) hx hb dX12_sail_14 (by decide) (fun c_3 => ?_) (fun c_3 => ?_)
  · rw [if_pos c_3] at h
    refine lv_iconst (v := (-1)) hx hb dX12_sail_30 (by decide) ?_
    obtain ⟨rfl, rfl, rfl⟩ := sm_inj h
    exact gx_ri (post := gq_p (-1) σ_2 τ_2) (v := (-1)) S hr hlk hw rfl dX12_sail_31 ⟨rfl, rfl, rfl⟩
  · rw [if_neg c_3] at h
    refine lv_iload hx hb dX12_sail_17 (lv_at hl 4 rfl) ?_
    refine lv_i2l (v := x4.toInt64) hx hb dX12_sail_19 rfl ?_
    refine lv_lconst (v := 0) hx hb dX12_sail_20 (by decide) ?_
    refine lv_ldc2 (v := 99) hx hb S.2.2.2.1 (S.2.2.2.2 _ mw_1853) dX12_sail_21 ?_
    obtain ⟨r_4, σ_4, τ_4, q_4, h⟩ := bd_some h
    refine gx_cSi (As := [.long x4.toInt64, .long 0, .long 99]) (rest := []) S hK gx_ok hw (c_X12_in l (E := E) N σ_2 τ_2 x4.toInt64 0 99 q_4) cw_X12_129 ⟨Nat.le_of_ble_eq_true rfl, Nat.le_of_ble_eq_true rfl⟩ rfl hl.1 rfl (Nat.le_of_ble_eq_true rfl) ⟨Nat.le_of_ble_eq_true rfl, Nat.le_of_ble_eq_true rfl⟩ dX12_sail_24 (fun r9 σ9 τ9 H locs hp hw => ?_)
    obtain ⟨rfl, rfl, rfl⟩ := hp
    refine lv_if_ne (tgt := 32) hx hb dX12_sail_27 (by decide) (fun c_5 => ?_) (fun c_5 => ?_)
    · rw [if_neg c_5] at h
      refine lv_aload_n hx hb dX12_sail_32 rfl (lv_at hl 0 rfl) ?_
      obtain ⟨u_6, σ_6, τ_6, q_6, h⟩ := bd_some h
      refine gx_cVv (As := []) (rest := []) S hK gx_ok hw (c_X12_thinksNow l (E := E) N σ_4 τ_4 q_6) cw_X12_409 t_199 cl_13 ⟨Nat.le_of_ble_eq_true rfl, Nat.le_of_ble_eq_true rfl⟩ rfl hl.1 rfl (Nat.le_of_ble_eq_true rfl) ⟨Nat.le_of_ble_eq_true rfl, Nat.le_of_ble_eq_true rfl⟩ dX12_sail_33 (fun σ9 τ9 H locs hp hw => ?_)
      obtain ⟨rfl, rfl⟩ := hp
      refine lv_aload_n hx hb dX12_sail_36 rfl (lv_at hl 0 rfl) ?_
      refine lv_iload_n hx hb dX12_sail_37 rfl (lv_at hl 1 rfl) ?_
      refine lv_iload_n hx hb dX12_sail_38 rfl (lv_at hl 2 rfl) ?_
      refine lv_iload_n hx hb dX12_sail_39 rfl (lv_at hl 3 rfl) ?_
      refine lv_iload hx hb dX12_sail_40 (lv_at hl 4 rfl) ?_
      refine lv_iload hx hb dX12_sail_42 (lv_at hl 5 rfl) ?_
      obtain ⟨r_7, σ_7, τ_7, q_7, h⟩ := bd_some h
      refine gx_cVi (As := [.int x1, .int x2, .int x3, .int x4, .int x5]) (rest := []) S hK gx_ok hw (c_X12_sails l (E := E) N σ_6 τ_6 x1 x2 x3 x4 x5 q_7) cw_X12_412 t_199 cl_13 ⟨Nat.le_of_ble_eq_true rfl, Nat.le_of_ble_eq_true rfl⟩ rfl hl.1 rfl (Nat.le_of_ble_eq_true rfl) ⟨Nat.le_of_ble_eq_true rfl, Nat.le_of_ble_eq_true rfl⟩ dX12_sail_44 (fun r9 σ9 τ9 H locs hp hw => ?_)
      obtain ⟨rfl, rfl, rfl⟩ := hp
      obtain ⟨rfl, rfl, rfl⟩ := sm_inj h
      exact gx_ri (post := gq_p r_7 σ_7 τ_7) (v := r_7) S hr hlk hw rfl dX12_sail_47 ⟨rfl, rfl, rfl⟩
    · rw [if_pos c_5] at h
      refine lv_iconst (v := (-1)) hx hb dX12_sail_30 (by decide) ?_
      obtain ⟨rfl, rfl, rfl⟩ := sm_inj h
      exact gx_ri (post := gq_p (-1) σ_4 τ_4) (v := (-1)) S hr hlk hw rfl dX12_sail_31 ⟨rfl, rfl, rfl⟩
set_option maxHeartbeats 4000000 in
set_option maxRecDepth 100000 in
theorem c_X12_sail (l : Launch) {E : gE} (N : Nat) (σ : gI) (τ : gJ) (x1 : Int32) (x2 : Int32) (x3 : Int32) (x4 : Int32) (x5 : Int32) {r : Int32} {σ1 : gI} {τ1 : gJ} (h : B_X12_sail_0 N σ τ x1 x2 x3 x4 x5 = some (r, σ1, τ1)) : gx_Mi l yX12_sail cX12_sail 6 (some .int) 9 gx_tb E σ τ [.ref (E.2.2 + 199), .int x1, .int x2, .int x3, .int x4, .int x5] (gq_p r σ1 τ1) := by
  refine gx_bi (by decide +kernel) (Nat.le_of_ble_eq_true rfl) ?_
  intro P9 e9 s m9 below meth C9 S hr hlk hK hw ls hl
  have hl : lv_has ls 6 [(0, .ref (E.2.2 + 199)), (1, .int x1), (2, .int x2), (3, .int x3), (4, .int x4), (5, .int x5)] := hl
  exact b_X12_sail_0 l S hr hlk hK N σ τ x1 x2 x3 x4 x5 h hw hl
/-! X12_saves -/
def B_X12_saves_50 (N : Nat) (rec_15 : gI → gJ → Int32 → Int32 → Int32 → Int32 → Int32 → Int32 → Int32 → Option (Int32 × gI × gJ)) (σ : gI) (τ : gJ) (x1 : Int32) (x2 : Int32) (x3 : Int32) (x4 : Int32) (x5 : Int32) (x6 : Int32) (x7 : Int32) : Option (Int32 × gI × gJ) := bd (B_X12_savedAfter_0 N σ τ x1 x7) fun r_1 σ_1 τ_1 => if r_1 < 0 then (nm (x7 + 1) fun v_3 => rec_15 σ_1 τ_1 x1 x2 x3 x4 x5 x6 v_3) else (if x2 < 0 then (nm (x7 + 1) fun v_5 => rec_15 σ_1 τ_1 x1 x2 x3 x4 x7 r_1 v_5) else (ck ((7 * x3) + 0) 45 fun j_6 => if σ_1 207 j_6 = x2 then (nm (x7 + 1) fun v_9 => rec_15 σ_1 τ_1 x1 x2 x3 x4 x7 r_1 v_9) else (nm (x7 + 1) fun v_8 => rec_15 σ_1 τ_1 x1 x2 x3 x4 x5 x6 v_8)))
def C_X12_saves_15 (N : Nat) (rec_15 : gI → gJ → Int32 → Int32 → Int32 → Int32 → Int32 → Int32 → Int32 → Option (Int32 × gI × gJ)) (σ : gI) (τ : gJ) (x1 : Int32) (x2 : Int32) (x3 : Int32) (x4 : Int32) (x5 : Int32) (x6 : Int32) (x7 : Int32) : Option (Int32 × gI × gJ) := if x4 < x7 then (if 0 ≤ x5 then (nm (up2 σ 199 1 0) fun σ_3 => bd (B_X12_enters_0 N σ_3 τ x5.toInt64) fun _ σ_4 τ_4 => bd (B_X12_enters_0 N σ_4 τ_4 x6.toInt64) fun _ σ_5 τ_5 => bd (B_J6_bitCount_0f7a4_0 N σ_5 τ_5 x5) fun r_6 σ_6 τ_6 => some (r_6, σ_6, τ_6)) else (some ((-2), σ, τ))) else (if x7 &&& (x4 ^^^ (-1)) = 0 then (if x5 < 0 then (B_X12_saves_50 N rec_15 σ τ x1 x2 x3 x4 x5 x6 x7) else (bd (B_J6_bitCount_0f7a4_0 N σ τ x7) fun r_10 σ_10 τ_10 => bd (B_J6_bitCount_0f7a4_0 N σ_10 τ_10 x5) fun r_11 σ_11 τ_11 => if r_11 ≤ r_10 then (nm (x7 + 1) fun v_13 => rec_15 σ_11 τ_11 x1 x2 x3 x4 x5 x6 v_13) else (B_X12_saves_50 N rec_15 σ_11 τ_11 x1 x2 x3 x4 x5 x6 x7))) else (nm (x7 + 1) fun v_8 => rec_15 σ τ x1 x2 x3 x4 x5 x6 v_8))
def H_X12_saves_15 (N : Nat) : Nat → gI → gJ → Int32 → Int32 → Int32 → Int32 → Int32 → Int32 → Int32 → Option (Int32 × gI × gJ) := itn (fun rec_15 => C_X12_saves_15 N rec_15) (fun _ _ _ _ _ _ _ _ _ => none)
def B_X12_saves_0 (N : Nat) (σ : gI) (τ : gJ) (x1 : Int32) (x2 : Int32) (x3 : Int32) : Option (Int32 × gI × gJ) := bd (B_X12_forks_0 N σ τ) fun r_1 σ_1 τ_1 => H_X12_saves_15 N N σ_1 τ_1 x1 x2 x3 r_1 (-1) 0 0
set_option maxHeartbeats 4000000 in
set_option maxRecDepth 100000 in
theorem b_X12_saves_50 (l : Launch) (S : CallFix P9 m9 C9 cX12_saves 9 s av.toArray gx_G RX12) (hr : meth.sig.returnType = (some .int)) (hlk : meth.locks = false) (hK : gx_K E s) (N : Nat) (rec_15 : gI → gJ → Int32 → Int32 → Int32 → Int32 → Int32 → Int32 → Int32 → Option (Int32 × gI × gJ)) (hrec_15 : ∀ (σ : gI) (τ : gJ) (x1 : Int32) (x2 : Int32) (x3 : Int32) (x4 : Int32) (x5 : Int32) (x6 : Int32) (x7 : Int32) (r : Int32) (σ1 : gI) (τ1 : gJ) (H : Heap) (locs : List Loc) (ls : Array Slot), rec_15 σ τ x1 x2 x3 x4 x5 x6 x7 = some (r, σ1, τ1) → gx_W gx_tb gx_tb.length E s σ τ H locs → lv_has ls 9 [(0, .ref (E.2.2 + 199)), (1, .int x1), (2, .int x2), (3, .int x3), (4, .int x4), (5, .int x5), (6, .int x6), (7, .int x7)] → W P9 l e9 (gx_rm 7) s m9 av.toArray below meth C9 H locs 0 0 (gq_Qi below av s E r σ1 τ1) (F0 m9 15 ls [])) (σ : gI) (τ : gJ) (x1 : Int32) (x2 : Int32) (x3 : Int32) (x4 : Int32) (x5 : Int32) (x6 : Int32) (x7 : Int32) {r : Int32} {σ1 : gI} {τ1 : gJ} (h : B_X12_saves_50 N rec_15 σ τ x1 x2 x3 x4 x5 x6 x7 = some (r, σ1, τ1)) {H : Heap} {locs : List Loc} {ls : Array Slot} (hw : gx_W gx_tb gx_tb.length E s σ τ H locs) (hl : lv_has ls 9 [(0, .ref (E.2.2 + 199)), (1, .int x1), (2, .int x2), (3, .int x3), (4, .int x4), (5, .int x5), (6, .int x6), (7, .int x7)]) : W P9 l e9 (gx_rm 7) s m9 av.toArray below meth C9 H locs 0 0 (gq_Qi below av s E r σ1 τ1) (F0 m9 50 ls []) := by
  have hx := S.1
  have hb := S.2.1
  unfold B_X12_saves_50 at h
  refine lv_aload_n hx hb dX12_saves_50 rfl (lv_at hl 0 rfl) ?_
  refine lv_iload_n hx hb dX12_saves_51 rfl (lv_at hl 1 rfl) ?_
  refine lv_iload hx hb dX12_saves_52 (lv_at hl 7 rfl) ?_
  obtain ⟨r_1, σ_1, τ_1, q_1, h⟩ := bd_some h
  refine gx_cVi (As := [.int x1, .int x7]) (rest := []) S hK gx_ok hw (c_X12_savedAfter l (E := E) N σ τ x1 x7 q_1) cw_X12_419 t_199 cl_13 ⟨Nat.le_of_ble_eq_true rfl, Nat.le_of_ble_eq_true rfl⟩ rfl hl.1 rfl (Nat.le_of_ble_eq_true rfl) ⟨Nat.le_of_ble_eq_true rfl, Nat.le_of_ble_eq_true rfl⟩ dX12_saves_54 (fun r9 σ9 τ9 H locs hp hw => ?_)
  obtain ⟨rfl, rfl, rfl⟩ := hp
  refine lv_istore (lv' := [(8, .int r_1), (0, .ref (E.2.2 + 199)), (1, .int x1), (2, .int x2), (3, .int x3), (4, .int x4), (5, .int x5), (6, .int x6), (7, .int x7)]) hx hb dX12_saves_57 hl (by decide) rfl (fun ls hl => ?_)
  refine lv_iload hx hb dX12_saves_59 (lv_at hl 0 rfl) ?_
  refine lv_if_lt (tgt := 91) hx hb dX12_saves_61 (by decide) (fun c_2 => ?_) (fun c_2 => ?_)
  · rw [if_pos c_2] at h
    refine lv_iinc (v := x7 + 1) (lv' := [(7, .int (x7 + 1)), (8, .int r_1), (0, .ref (E.2.2 + 199)), (1, .int x1), (2, .int x2), (3, .int x3), (4, .int x4), (5, .int x5), (6, .int x6)]) hx hb dX12_saves_91 hl (k := 8) rfl rfl (by decide) rfl (fun ls hl => ?_)
    obtain ⟨v_3, e_3, h⟩ := nm_some h
    have hl : lv_has ls 9 [(7, .int v_3), (8, .int r_1), (0, .ref (E.2.2 + 199)), (1, .int x1), (2, .int x2), (3, .int x3), (4, .int x4), (5, .int x5), (6, .int x6)] := by rw [e_3]; exact hl
    refine lv_goto (tgt := 15) hx hb dX12_saves_94 (by decide) ?_
    exact hrec_15 σ_1 τ_1 x1 x2 x3 x4 x5 x6 v_3 _ _ _ _ _ _ h hw (lv_sub hl [2, 3, 4, 5, 6, 7, 8, 0] rfl)
  · rw [if_neg c_2] at h
    refine lv_iload_n hx hb dX12_saves_64 rfl (lv_at hl 3 rfl) ?_
    refine lv_if_lt (tgt := 83) hx hb dX12_saves_65 (by decide) (fun c_4 => ?_) (fun c_4 => ?_)
    · rw [if_pos c_4] at h
      refine lv_iload hx hb dX12_saves_83 (lv_at hl 8 rfl) ?_
      refine lv_istore (lv' := [(5, .int x7), (8, .int r_1), (0, .ref (E.2.2 + 199)), (1, .int x1), (2, .int x2), (3, .int x3), (4, .int x4), (6, .int x6), (7, .int x7)]) hx hb dX12_saves_85 hl (by decide) rfl (fun ls hl => ?_)
      refine lv_iload hx hb dX12_saves_87 (lv_at hl 1 rfl) ?_
      refine lv_istore (lv' := [(6, .int r_1), (5, .int x7), (8, .int r_1), (0, .ref (E.2.2 + 199)), (1, .int x1), (2, .int x2), (3, .int x3), (4, .int x4), (7, .int x7)]) hx hb dX12_saves_89 hl (by decide) rfl (fun ls hl => ?_)
      refine lv_iinc (v := x7 + 1) (lv' := [(7, .int (x7 + 1)), (6, .int r_1), (5, .int x7), (8, .int r_1), (0, .ref (E.2.2 + 199)), (1, .int x1), (2, .int x2), (3, .int x3), (4, .int x4)]) hx hb dX12_saves_91 hl (k := 8) rfl rfl (by decide) rfl (fun ls hl => ?_)
      obtain ⟨v_5, e_5, h⟩ := nm_some h
      have hl : lv_has ls 9 [(7, .int v_5), (6, .int r_1), (5, .int x7), (8, .int r_1), (0, .ref (E.2.2 + 199)), (1, .int x1), (2, .int x2), (3, .int x3), (4, .int x4)] := by rw [e_5]; exact hl
      refine lv_goto (tgt := 15) hx hb dX12_saves_94 (by decide) ?_
      exact hrec_15 σ_1 τ_1 x1 x2 x3 x4 x7 r_1 v_5 _ _ _ _ _ _ h hw (lv_sub hl [4, 5, 6, 7, 8, 2, 1, 0] rfl)
    · rw [if_neg c_4] at h
      refine lv_aload_n hx hb dX12_saves_68 rfl (lv_at hl 1 rfl) ?_
      refine gx_getr (j := 207) S hK hw t_199 cl_13 11 (by decide) rfl mw_1425 rfl dX12_saves_69 ?_
      refine lv_bipush (v := 7) hx hb dX12_saves_72 (by decide) ?_
      refine lv_iload_n hx hb dX12_saves_74 rfl (lv_at hl 4 rfl) ?_
      refine lv_imul hx hb dX12_saves_75 ?_
      refine lv_iconst (v := 0) hx hb dX12_saves_76 (by decide) ?_
      refine lv_iadd hx hb dX12_saves_77 ?_
      obtain ⟨j_6, hj_6, hi_6, h⟩ := ck_some h
      refine gx_iald S hK hw t_207 j_6 hj_6 hi_6 dX12_saves_78 ?_
      refine lv_iload_n hx hb dX12_saves_79 rfl (lv_at hl 3 rfl) ?_
      refine lv_icmp_ne (tgt := 91) hx hb dX12_saves_80 (by decide) (fun c_7 => ?_) (fun c_7 => ?_)
      · rw [if_neg c_7] at h
        refine lv_iinc (v := x7 + 1) (lv' := [(7, .int (x7 + 1)), (8, .int r_1), (0, .ref (E.2.2 + 199)), (1, .int x1), (2, .int x2), (3, .int x3), (4, .int x4), (5, .int x5), (6, .int x6)]) hx hb dX12_saves_91 hl (k := 8) rfl rfl (by decide) rfl (fun ls hl => ?_)
        obtain ⟨v_8, e_8, h⟩ := nm_some h
        have hl : lv_has ls 9 [(7, .int v_8), (8, .int r_1), (0, .ref (E.2.2 + 199)), (1, .int x1), (2, .int x2), (3, .int x3), (4, .int x4), (5, .int x5), (6, .int x6)] := by rw [e_8]; exact hl
        refine lv_goto (tgt := 15) hx hb dX12_saves_94 (by decide) ?_
        exact hrec_15 σ_1 τ_1 x1 x2 x3 x4 x5 x6 v_8 _ _ _ _ _ _ h hw (lv_sub hl [2, 3, 4, 5, 6, 7, 8, 0] rfl)
      · rw [if_pos c_7] at h
        refine lv_iload hx hb dX12_saves_83 (lv_at hl 8 rfl) ?_
        refine lv_istore (lv' := [(5, .int x7), (8, .int r_1), (0, .ref (E.2.2 + 199)), (1, .int x1), (2, .int x2), (3, .int x3), (4, .int x4), (6, .int x6), (7, .int x7)]) hx hb dX12_saves_85 hl (by decide) rfl (fun ls hl => ?_)
        refine lv_iload hx hb dX12_saves_87 (lv_at hl 1 rfl) ?_
        refine lv_istore (lv' := [(6, .int r_1), (5, .int x7), (8, .int r_1), (0, .ref (E.2.2 + 199)), (1, .int x1), (2, .int x2), (3, .int x3), (4, .int x4), (7, .int x7)]) hx hb dX12_saves_89 hl (by decide) rfl (fun ls hl => ?_)
        refine lv_iinc (v := x7 + 1) (lv' := [(7, .int (x7 + 1)), (6, .int r_1), (5, .int x7), (8, .int r_1), (0, .ref (E.2.2 + 199)), (1, .int x1), (2, .int x2), (3, .int x3), (4, .int x4)]) hx hb dX12_saves_91 hl (k := 8) rfl rfl (by decide) rfl (fun ls hl => ?_)
        obtain ⟨v_9, e_9, h⟩ := nm_some h
        have hl : lv_has ls 9 [(7, .int v_9), (6, .int r_1), (5, .int x7), (8, .int r_1), (0, .ref (E.2.2 + 199)), (1, .int x1), (2, .int x2), (3, .int x3), (4, .int x4)] := by rw [e_9]; exact hl
        refine lv_goto (tgt := 15) hx hb dX12_saves_94 (by decide) ?_
        exact hrec_15 σ_1 τ_1 x1 x2 x3 x4 x7 r_1 v_9 _ _ _ _ _ _ h hw (lv_sub hl [4, 5, 6, 7, 8, 2, 1, 0] rfl)
set_option maxHeartbeats 4000000 in
set_option maxRecDepth 100000 in
theorem k_X12_saves_15 (l : Launch) (S : CallFix P9 m9 C9 cX12_saves 9 s av.toArray gx_G RX12) (hr : meth.sig.returnType = (some .int)) (hlk : meth.locks = false) (hK : gx_K E s) (N : Nat) (rec_15 : gI → gJ → Int32 → Int32 → Int32 → Int32 → Int32 → Int32 → Int32 → Option (Int32 × gI × gJ)) (hrec_15 : ∀ (σ : gI) (τ : gJ) (x1 : Int32) (x2 : Int32) (x3 : Int32) (x4 : Int32) (x5 : Int32) (x6 : Int32) (x7 : Int32) (r : Int32) (σ1 : gI) (τ1 : gJ) (H : Heap) (locs : List Loc) (ls : Array Slot), rec_15 σ τ x1 x2 x3 x4 x5 x6 x7 = some (r, σ1, τ1) → gx_W gx_tb gx_tb.length E s σ τ H locs → lv_has ls 9 [(0, .ref (E.2.2 + 199)), (1, .int x1), (2, .int x2), (3, .int x3), (4, .int x4), (5, .int x5), (6, .int x6), (7, .int x7)] → W P9 l e9 (gx_rm 7) s m9 av.toArray below meth C9 H locs 0 0 (gq_Qi below av s E r σ1 τ1) (F0 m9 15 ls [])) (σ : gI) (τ : gJ) (x1 : Int32) (x2 : Int32) (x3 : Int32) (x4 : Int32) (x5 : Int32) (x6 : Int32) (x7 : Int32) {r : Int32} {σ1 : gI} {τ1 : gJ} (h : C_X12_saves_15 N rec_15 σ τ x1 x2 x3 x4 x5 x6 x7 = some (r, σ1, τ1)) {H : Heap} {locs : List Loc} {ls : Array Slot} (hw : gx_W gx_tb gx_tb.length E s σ τ H locs) (hl : lv_has ls 9 [(0, .ref (E.2.2 + 199)), (1, .int x1), (2, .int x2), (3, .int x3), (4, .int x4), (5, .int x5), (6, .int x6), (7, .int x7)]) : W P9 l e9 (gx_rm 7) s m9 av.toArray below meth C9 H locs 0 0 (gq_Qi below av s E r σ1 τ1) (F0 m9 15 ls []) := by
  have hx := S.1
  have hb := S.2.1
  unfold C_X12_saves_15 at h
  refine lv_iload hx hb dX12_saves_15 (lv_at hl 7 rfl) ?_
  refine lv_iload hx hb dX12_saves_17 (lv_at hl 4 rfl) ?_
  refine lv_icmp_gt (tgt := 97) hx hb dX12_saves_19 (by decide) (fun c_1 => ?_) (fun c_1 => ?_)
  · rw [if_pos c_1] at h
    refine lv_iload hx hb dX12_saves_97 (lv_at hl 5 rfl) ?_
    refine lv_if_ge (tgt := 105) hx hb dX12_saves_99 (by decide) (fun c_2 => ?_) (fun c_2 => ?_)
    · rw [if_pos c_2] at h
      refine lv_aload_n hx hb dX12_saves_105 rfl (lv_at hl 0 rfl) ?_
      refine lv_iconst (v := 0) hx hb dX12_saves_106 (by decide) ?_
      refine gx_put S hK gx_ok hw t_199 cl_13 1 (by decide) rfl mw_1415 rfl rfl (ty := .int) (v := 0) (by decide +kernel) rfl rfl dX12_saves_107 (fun H locs hw => ?_)
      obtain ⟨σ_3, e_3, h⟩ := nm_some h
      rw [← e_3] at hw
      refine lv_aload_n hx hb dX12_saves_110 rfl (lv_at hl 0 rfl) ?_
      refine lv_iload hx hb dX12_saves_111 (lv_at hl 5 rfl) ?_
      refine lv_i2l (v := x5.toInt64) hx hb dX12_saves_113 rfl ?_
      obtain ⟨u_4, σ_4, τ_4, q_4, h⟩ := bd_some h
      refine gx_cVv (As := [.long x5.toInt64]) (rest := []) S hK gx_ok hw (c_X12_enters l (E := E) N σ_3 τ x5.toInt64 q_4) cw_X12_122 t_199 cl_13 ⟨Nat.le_of_ble_eq_true rfl, Nat.le_of_ble_eq_true rfl⟩ rfl hl.1 rfl (Nat.le_of_ble_eq_true rfl) ⟨Nat.le_of_ble_eq_true rfl, Nat.le_of_ble_eq_true rfl⟩ dX12_saves_114 (fun σ9 τ9 H locs hp hw => ?_)
      obtain ⟨rfl, rfl⟩ := hp
      refine lv_aload_n hx hb dX12_saves_117 rfl (lv_at hl 0 rfl) ?_
      refine lv_iload hx hb dX12_saves_118 (lv_at hl 6 rfl) ?_
      refine lv_i2l (v := x6.toInt64) hx hb dX12_saves_120 rfl ?_
      obtain ⟨u_5, σ_5, τ_5, q_5, h⟩ := bd_some h
      refine gx_cVv (As := [.long x6.toInt64]) (rest := []) S hK gx_ok hw (c_X12_enters l (E := E) N σ_4 τ_4 x6.toInt64 q_5) cw_X12_122 t_199 cl_13 ⟨Nat.le_of_ble_eq_true rfl, Nat.le_of_ble_eq_true rfl⟩ rfl hl.1 rfl (Nat.le_of_ble_eq_true rfl) ⟨Nat.le_of_ble_eq_true rfl, Nat.le_of_ble_eq_true rfl⟩ dX12_saves_121 (fun σ9 τ9 H locs hp hw => ?_)
      obtain ⟨rfl, rfl⟩ := hp
      refine lv_iload hx hb dX12_saves_124 (lv_at hl 5 rfl) ?_
      obtain ⟨r_6, σ_6, τ_6, q_6, h⟩ := bd_some h
      refine gx_cSi (As := [.int x5]) (rest := []) S hK gx_ok hw (c_J6_bitCount_0f7a4 l (E := E) N σ_5 τ_5 x5 q_6) cw_X12_353 ⟨Nat.le_of_ble_eq_true rfl, Nat.le_of_ble_eq_true rfl⟩ rfl hl.1 rfl (Nat.le_of_ble_eq_true rfl) ⟨Nat.le_of_ble_eq_true rfl, Nat.le_of_ble_eq_true rfl⟩ dX12_saves_126 (fun r9 σ9 τ9 H locs hp hw => ?_)
      obtain ⟨rfl, rfl, rfl⟩ := hp
      obtain ⟨rfl, rfl, rfl⟩ := sm_inj h
      exact gx_ri (post := gq_p r_6 σ_6 τ_6) (v := r_6) S hr hlk hw rfl dX12_saves_129 ⟨rfl, rfl, rfl⟩
    · rw [if_neg c_2] at h
      refine lv_bipush (v := (-2)) hx hb dX12_saves_102 (by decide) ?_
      obtain ⟨rfl, rfl, rfl⟩ := sm_inj h
      exact gx_ri (post := gq_p (-2) σ τ) (v := (-2)) S hr hlk hw rfl dX12_saves_104 ⟨rfl, rfl, rfl⟩
  · rw [if_neg c_1] at h
    refine lv_iload hx hb dX12_saves_22 (lv_at hl 7 rfl) ?_
    refine lv_iload hx hb dX12_saves_24 (lv_at hl 4 rfl) ?_
    refine lv_iconst (v := (-1)) hx hb dX12_saves_26 (by decide) ?_
    refine lv_ixor hx hb dX12_saves_27 ?_
    refine lv_iand hx hb dX12_saves_28 ?_
    refine lv_if_ne (tgt := 91) hx hb dX12_saves_29 (by decide) (fun c_7 => ?_) (fun c_7 => ?_)
    · rw [if_neg c_7] at h
      refine lv_iinc (v := x7 + 1) (lv' := [(7, .int (x7 + 1)), (0, .ref (E.2.2 + 199)), (1, .int x1), (2, .int x2), (3, .int x3), (4, .int x4), (5, .int x5), (6, .int x6)]) hx hb dX12_saves_91 hl (k := 7) rfl rfl (by decide) rfl (fun ls hl => ?_)
      obtain ⟨v_8, e_8, h⟩ := nm_some h
      have hl : lv_has ls 9 [(7, .int v_8), (0, .ref (E.2.2 + 199)), (1, .int x1), (2, .int x2), (3, .int x3), (4, .int x4), (5, .int x5), (6, .int x6)] := by rw [e_8]; exact hl
      refine lv_goto (tgt := 15) hx hb dX12_saves_94 (by decide) ?_
      exact hrec_15 σ τ x1 x2 x3 x4 x5 x6 v_8 _ _ _ _ _ _ h hw (lv_sub hl [1, 2, 3, 4, 5, 6, 7, 0] rfl)
    · rw [if_pos c_7] at h
      refine lv_iload hx hb dX12_saves_32 (lv_at hl 5 rfl) ?_
      refine lv_if_lt (tgt := 50) hx hb dX12_saves_34 (by decide) (fun c_9 => ?_) (fun c_9 => ?_)
      · rw [if_pos c_9] at h
        exact b_X12_saves_50 l S hr hlk hK N rec_15 hrec_15 σ τ x1 x2 x3 x4 x5 x6 x7 h hw (lv_sub hl [0, 1, 2, 3, 4, 5, 6, 7] rfl)
      · rw [if_neg c_9] at h
        refine lv_iload hx hb dX12_saves_37 (lv_at hl 7 rfl) ?_
        obtain ⟨r_10, σ_10, τ_10, q_10, h⟩ := bd_some h
        refine gx_cSi (As := [.int x7]) (rest := []) S hK gx_ok hw (c_J6_bitCount_0f7a4 l (E := E) N σ τ x7 q_10) cw_X12_353 ⟨Nat.le_of_ble_eq_true rfl, Nat.le_of_ble_eq_true rfl⟩ rfl hl.1 rfl (Nat.le_of_ble_eq_true rfl) ⟨Nat.le_of_ble_eq_true rfl, Nat.le_of_ble_eq_true rfl⟩ dX12_saves_39 (fun r9 σ9 τ9 H locs hp hw => ?_)
        obtain ⟨rfl, rfl, rfl⟩ := hp
        refine lv_iload hx hb dX12_saves_42 (lv_at hl 5 rfl) ?_
        obtain ⟨r_11, σ_11, τ_11, q_11, h⟩ := bd_some h
        refine gx_cSi (As := [.int x5]) (rest := [.int r_10]) S hK gx_ok hw (c_J6_bitCount_0f7a4 l (E := E) N σ_10 τ_10 x5 q_11) cw_X12_353 ⟨Nat.le_of_ble_eq_true rfl, Nat.le_of_ble_eq_true rfl⟩ rfl hl.1 rfl (Nat.le_of_ble_eq_true rfl) ⟨Nat.le_of_ble_eq_true rfl, Nat.le_of_ble_eq_true rfl⟩ dX12_saves_44 (fun r9 σ9 τ9 H locs hp hw => ?_)
        obtain ⟨rfl, rfl, rfl⟩ := hp
        refine lv_icmp_ge (tgt := 91) hx hb dX12_saves_47 (by decide) (fun c_12 => ?_) (fun c_12 => ?_)
        · rw [if_pos c_12] at h
          refine lv_iinc (v := x7 + 1) (lv' := [(7, .int (x7 + 1)), (0, .ref (E.2.2 + 199)), (1, .int x1), (2, .int x2), (3, .int x3), (4, .int x4), (5, .int x5), (6, .int x6)]) hx hb dX12_saves_91 hl (k := 7) rfl rfl (by decide) rfl (fun ls hl => ?_)
          obtain ⟨v_13, e_13, h⟩ := nm_some h
          have hl : lv_has ls 9 [(7, .int v_13), (0, .ref (E.2.2 + 199)), (1, .int x1), (2, .int x2), (3, .int x3), (4, .int x4), (5, .int x5), (6, .int x6)] := by rw [e_13]; exact hl
          refine lv_goto (tgt := 15) hx hb dX12_saves_94 (by decide) ?_
          exact hrec_15 σ_11 τ_11 x1 x2 x3 x4 x5 x6 v_13 _ _ _ _ _ _ h hw (lv_sub hl [1, 2, 3, 4, 5, 6, 7, 0] rfl)
        · rw [if_neg c_12] at h
          exact b_X12_saves_50 l S hr hlk hK N rec_15 hrec_15 σ_11 τ_11 x1 x2 x3 x4 x5 x6 x7 h hw (lv_sub hl [0, 1, 2, 3, 4, 5, 6, 7] rfl)
set_option maxHeartbeats 4000000 in
set_option maxRecDepth 100000 in
theorem h_X12_saves_15 (l : Launch) (S : CallFix P9 m9 C9 cX12_saves 9 s av.toArray gx_G RX12) (hr : meth.sig.returnType = (some .int)) (hlk : meth.locks = false) (hK : gx_K E s) (N : Nat) : ∀ (n : Nat) (σ : gI) (τ : gJ) (x1 : Int32) (x2 : Int32) (x3 : Int32) (x4 : Int32) (x5 : Int32) (x6 : Int32) (x7 : Int32) (r : Int32) (σ1 : gI) (τ1 : gJ), H_X12_saves_15 N n σ τ x1 x2 x3 x4 x5 x6 x7 = some (r, σ1, τ1) → ∀ (H : Heap) (locs : List Loc) (ls : Array Slot), gx_W gx_tb gx_tb.length E s σ τ H locs → lv_has ls 9 [(0, .ref (E.2.2 + 199)), (1, .int x1), (2, .int x2), (3, .int x3), (4, .int x4), (5, .int x5), (6, .int x6), (7, .int x7)] → W P9 l e9 (gx_rm 7) s m9 av.toArray below meth C9 H locs 0 0 (gq_Qi below av s E r σ1 τ1) (F0 m9 15 ls []) := by
  intro n
  induction n with
  | zero => intro σ τ x1 x2 x3 x4 x5 x6 x7 r σ1 τ1 h; cases h
  | succ n ih =>
    intro σ τ x1 x2 x3 x4 x5 x6 x7 r σ1 τ1 h H locs ls hw hl
    exact k_X12_saves_15 l S hr hlk hK N (H_X12_saves_15 N n) (fun σ τ x1 x2 x3 x4 x5 x6 x7 r σ1 τ1 H locs ls h hw hl => ih σ τ x1 x2 x3 x4 x5 x6 x7 r σ1 τ1 h H locs ls hw hl) σ τ x1 x2 x3 x4 x5 x6 x7 h hw hl
set_option maxHeartbeats 4000000 in
set_option maxRecDepth 100000 in
theorem b_X12_saves_0 (l : Launch) (S : CallFix P9 m9 C9 cX12_saves 9 s av.toArray gx_G RX12) (hr : meth.sig.returnType = (some .int)) (hlk : meth.locks = false) (hK : gx_K E s) (N : Nat) (σ : gI) (τ : gJ) (x1 : Int32) (x2 : Int32) (x3 : Int32) {r : Int32} {σ1 : gI} {τ1 : gJ} (h : B_X12_saves_0 N σ τ x1 x2 x3 = some (r, σ1, τ1)) {H : Heap} {locs : List Loc} {ls : Array Slot} (hw : gx_W gx_tb gx_tb.length E s σ τ H locs) (hl : lv_has ls 9 [(0, .ref (E.2.2 + 199)), (1, .int x1), (2, .int x2), (3, .int x3)]) : W P9 l e9 (gx_rm 7) s m9 av.toArray below meth C9 H locs 0 0 (gq_Qi below av s E r σ1 τ1) (F0 m9 0 ls []) := by
  have hx := S.1
  have hb := S.2.1
  unfold B_X12_saves_0 at h
  refine lv_aload_n hx hb dX12_saves_0 rfl (lv_at hl 0 rfl) ?_
  obtain ⟨r_1, σ_1, τ_1, q_1, h⟩ := bd_some h
  refine gx_cVi (As := []) (rest := []) S hK gx_ok hw (c_X12_forks l (E := E) N σ τ q_1) cw_X12_416 t_199 cl_13 ⟨Nat.le_of_ble_eq_true rfl, Nat.le_of_ble_eq_true rfl⟩ rfl hl.1 rfl (Nat.le_of_ble_eq_true rfl) ⟨Nat.le_of_ble_eq_true rfl, Nat.le_of_ble_eq_true rfl⟩ dX12_saves_1 (fun r9 σ9 τ9 H locs hp hw => ?_)
  obtain ⟨rfl, rfl, rfl⟩ := hp
  refine lv_istore (lv' := [(4, .int r_1), (0, .ref (E.2.2 + 199)), (1, .int x1), (2, .int x2), (3, .int x3)]) hx hb dX12_saves_4 hl (by decide) rfl (fun ls hl => ?_)
  refine lv_iconst (v := (-1)) hx hb dX12_saves_6 (by decide) ?_
  refine lv_istore (lv' := [(5, .int (-1)), (4, .int r_1), (0, .ref (E.2.2 + 199)), (1, .int x1), (2, .int x2), (3, .int x3)]) hx hb dX12_saves_7 hl (by decide) rfl (fun ls hl => ?_)
  refine lv_iconst (v := 0) hx hb dX12_saves_9 (by decide) ?_
  refine lv_istore (lv' := [(6, .int 0), (5, .int (-1)), (4, .int r_1), (0, .ref (E.2.2 + 199)), (1, .int x1), (2, .int x2), (3, .int x3)]) hx hb dX12_saves_10 hl (by decide) rfl (fun ls hl => ?_)
  refine lv_iconst (v := 0) hx hb dX12_saves_12 (by decide) ?_
  refine lv_istore (lv' := [(7, .int 0), (6, .int 0), (5, .int (-1)), (4, .int r_1), (0, .ref (E.2.2 + 199)), (1, .int x1), (2, .int x2), (3, .int x3)]) hx hb dX12_saves_13 hl (by decide) rfl (fun ls hl => ?_)
  exact h_X12_saves_15 l S hr hlk hK N N σ_1 τ_1 x1 x2 x3 r_1 (-1) 0 0 _ _ _ h _ _ _ hw (lv_sub hl [4, 5, 6, 7, 3, 2, 1, 0] rfl)
set_option maxHeartbeats 4000000 in
set_option maxRecDepth 100000 in
theorem c_X12_saves (l : Launch) {E : gE} (N : Nat) (σ : gI) (τ : gJ) (x1 : Int32) (x2 : Int32) (x3 : Int32) {r : Int32} {σ1 : gI} {τ1 : gJ} (h : B_X12_saves_0 N σ τ x1 x2 x3 = some (r, σ1, τ1)) : gx_Mi l yX12_saves cX12_saves 9 (some .int) 7 gx_tb E σ τ [.ref (E.2.2 + 199), .int x1, .int x2, .int x3] (gq_p r σ1 τ1) := by
  refine gx_bi (by decide +kernel) (Nat.le_of_ble_eq_true rfl) ?_
  intro P9 e9 s m9 below meth C9 S hr hlk hK hw ls hl
  have hl : lv_has ls 9 [(0, .ref (E.2.2 + 199)), (1, .int x1), (2, .int x2), (3, .int x3)] := hl
  exact b_X12_saves_0 l S hr hlk hK N σ τ x1 x2 x3 h hw hl
/-! X12_save -/
def B_X12_save_0 (N : Nat) (σ : gI) (τ : gJ) (x1 : Int32) : Option (Int32 × gI × gJ) := nm (up2 σ 199 0 0) fun σ_1 => bd (B_X12_in_0 N σ_1 τ x1.toInt64 0 (((1 <<< ((σ_1 206 44) &&& 31)) - 1).toInt64)) fun r_2 σ_2 τ_2 => if r_2 = 0 then (some ((-1), σ_2, τ_2)) else (bd (B_X12_saves_0 N σ_2 τ_2 x1 (-1) 0) fun r_4 σ_4 τ_4 => some (r_4, σ_4, τ_4))
set_option maxHeartbeats 4000000 in
set_option maxRecDepth 100000 in
theorem b_X12_save_0 (l : Launch) (S : CallFix P9 m9 C9 cX12_save 2 s av.toArray gx_G RX12) (hr : meth.sig.returnType = (some .int)) (hlk : meth.locks = false) (hK : gx_K E s) (N : Nat) (σ : gI) (τ : gJ) (x1 : Int32) {r : Int32} {σ1 : gI} {τ1 : gJ} (h : B_X12_save_0 N σ τ x1 = some (r, σ1, τ1)) {H : Heap} {locs : List Loc} {ls : Array Slot} (hw : gx_W gx_tb gx_tb.length E s σ τ H locs) (hl : lv_has ls 2 [(0, .ref (E.2.2 + 199)), (1, .int x1)]) : W P9 l e9 (gx_rm 8) s m9 av.toArray below meth C9 H locs 0 0 (gq_Qi below av s E r σ1 τ1) (F0 m9 0 ls []) := by
  have hx := S.1
  have hb := S.2.1
  unfold B_X12_save_0 at h
  refine lv_aload_n hx hb dX12_save_0 rfl (lv_at hl 0 rfl) ?_
  refine lv_iconst (v := 0) hx hb dX12_save_1 (by decide) ?_
  refine gx_put S hK gx_ok hw t_199 cl_13 0 (by decide) rfl mw_1414 rfl rfl (ty := .int) (v := 0) (by decide +kernel) rfl rfl dX12_save_2 (fun H locs hw => ?_)
  obtain ⟨σ_1, e_1, h⟩ := nm_some h
  rw [← e_1] at hw
  refine lv_iload_n hx hb dX12_save_5 rfl (lv_at hl 1 rfl) ?_
  refine lv_i2l (v := x1.toInt64) hx hb dX12_save_6 rfl ?_
  refine lv_lconst (v := 0) hx hb dX12_save_7 (by decide) ?_
  refine lv_iconst (v := 1) hx hb dX12_save_8 (by decide) ?_
  refine lv_aload_n hx hb dX12_save_9 rfl (lv_at hl 0 rfl) ?_
  refine gx_getr (j := 206) S hK hw t_199 cl_13 10 (by decide) rfl mw_1424 rfl dX12_save_10 ?_
  refine lv_bipush (v := 44) hx hb dX12_save_13 (by decide) ?_
  refine gx_iald S hK hw t_206 44 rfl (gx_in rfl (by decide) (by decide)) dX12_save_15 ?_
  refine lv_ishl hx hb dX12_save_16 ?_
  refine lv_iconst (v := 1) hx hb dX12_save_17 (by decide) ?_
  refine lv_isub hx hb dX12_save_18 ?_
  refine lv_i2l (v := ((1 <<< ((σ_1 206 44) &&& 31)) - 1).toInt64) hx hb dX12_save_19 rfl ?_
  obtain ⟨r_2, σ_2, τ_2, q_2, h⟩ := bd_some h
  refine gx_cSi (As := [.long x1.toInt64, .long 0, .long (((1 <<< ((σ_1 206 44) &&& 31)) - 1).toInt64)]) (rest := []) S hK gx_ok hw (c_X12_in l (E := E) N σ_1 τ x1.toInt64 0 (((1 <<< ((σ_1 206 44) &&& 31)) - 1).toInt64) q_2) cw_X12_129 ⟨Nat.le_of_ble_eq_true rfl, Nat.le_of_ble_eq_true rfl⟩ rfl hl.1 rfl (Nat.le_of_ble_eq_true rfl) ⟨Nat.le_of_ble_eq_true rfl, Nat.le_of_ble_eq_true rfl⟩ dX12_save_20 (fun r9 σ9 τ9 H locs hp hw => ?_)
  obtain ⟨rfl, rfl, rfl⟩ := hp
  refine lv_if_eq (tgt := 36) hx hb dX12_save_23 (by decide) (fun c_3 => ?_) (fun c_3 => ?_)
  · rw [if_pos c_3] at h
    refine lv_iconst (v := (-1)) hx hb dX12_save_36 (by decide) ?_
    obtain ⟨rfl, rfl, rfl⟩ := sm_inj h
    exact gx_ri (post := gq_p (-1) σ_2 τ_2) (v := (-1)) S hr hlk hw rfl dX12_save_37 ⟨rfl, rfl, rfl⟩
  · rw [if_neg c_3] at h
    refine lv_aload_n hx hb dX12_save_26 rfl (lv_at hl 0 rfl) ?_
    refine lv_iload_n hx hb dX12_save_27 rfl (lv_at hl 1 rfl) ?_
    refine lv_iconst (v := (-1)) hx hb dX12_save_28 (by decide) ?_
    refine lv_iconst (v := 0) hx hb dX12_save_29 (by decide) ?_
    obtain ⟨r_4, σ_4, τ_4, q_4, h⟩ := bd_some h
    refine gx_cVi (As := [.int x1, .int (-1), .int 0]) (rest := []) S hK gx_ok hw (c_X12_saves l (E := E) N σ_2 τ_2 x1 (-1) 0 q_4) cw_X12_422 t_199 cl_13 ⟨Nat.le_of_ble_eq_true rfl, Nat.le_of_ble_eq_true rfl⟩ rfl hl.1 rfl (Nat.le_of_ble_eq_true rfl) ⟨Nat.le_of_ble_eq_true rfl, Nat.le_of_ble_eq_true rfl⟩ dX12_save_30 (fun r9 σ9 τ9 H locs hp hw => ?_)
    obtain ⟨rfl, rfl, rfl⟩ := hp
    refine lv_goto (tgt := 37) hx hb dX12_save_33 (by decide) ?_
    obtain ⟨rfl, rfl, rfl⟩ := sm_inj h
    exact gx_ri (post := gq_p r_4 σ_4 τ_4) (v := r_4) S hr hlk hw rfl dX12_save_37 ⟨rfl, rfl, rfl⟩
set_option maxHeartbeats 4000000 in
set_option maxRecDepth 100000 in
theorem c_X12_save (l : Launch) {E : gE} (N : Nat) (σ : gI) (τ : gJ) (x1 : Int32) {r : Int32} {σ1 : gI} {τ1 : gJ} (h : B_X12_save_0 N σ τ x1 = some (r, σ1, τ1)) : gx_Mi l yX12_save cX12_save 2 (some .int) 8 gx_tb E σ τ [.ref (E.2.2 + 199), .int x1] (gq_p r σ1 τ1) := by
  refine gx_bi (by decide +kernel) (Nat.le_of_ble_eq_true rfl) ?_
  intro P9 e9 s m9 below meth C9 S hr hlk hK hw ls hl
  have hl : lv_has ls 2 [(0, .ref (E.2.2 + 199)), (1, .int x1)] := hl
  exact b_X12_save_0 l S hr hlk hK N σ τ x1 h hw hl
/-! X12_sheet -/
def B_X12_sheet_120 (N : Nat) (rec_46 : gI → gJ → Int32 → Int32 → Int32 → Int32 → Int32 → Int32 → Option (Int32 × gI × gJ)) (σ : gI) (τ : gJ) (x1 : Int32) (x2 : Int32) (x4 : Int32) (x5 : Int32) (x6 : Int32) (x7 : Int32) (y0 : Int32) (y1 : Int32) : Option (Int32 × gI × gJ) := ck y1 45 fun j_1 => nm (up2 σ 206 j_1 y0) fun σ_2 => ck ((7 * x7) + 1) 45 fun j_3 => nm (x5 + (σ_2 206 j_3)) fun v_4 => nm (x6 + x4) fun v_5 => nm (x7 + 1) fun v_6 => rec_46 σ_2 τ x1 x2 x4 v_4 v_5 v_6
def B_X12_sheet_81 (N : Nat) (rec_46 : gI → gJ → Int32 → Int32 → Int32 → Int32 → Int32 → Int32 → Option (Int32 × gI × gJ)) (σ : gI) (τ : gJ) (x1 : Int32) (x2 : Int32) (x4 : Int32) (x5 : Int32) (x6 : Int32) (x7 : Int32) (y0 : Int32) : Option (Int32 × gI × gJ) := if x1 = 3 then (B_X12_sheet_120 N rec_46 σ τ x1 x2 x4 x5 x6 x7 0 ((7 * x7) + 1)) else (if x7 < x2 then (B_X12_sheet_120 N rec_46 σ τ x1 x2 x4 x5 x6 x7 (imax 0 (imin 99 y0)) ((7 * x7) + 1)) else (B_X12_sheet_120 N rec_46 σ τ x1 x2 x4 x5 x6 x7 0 ((7 * x7) + 1)))
def C_X12_sheet_46 (N : Nat) (rec_46 : gI → gJ → Int32 → Int32 → Int32 → Int32 → Int32 → Int32 → Option (Int32 × gI × gJ)) (σ : gI) (τ : gJ) (x1 : Int32) (x2 : Int32) (x4 : Int32) (x5 : Int32) (x6 : Int32) (x7 : Int32) : Option (Int32 × gI × gJ) := if σ 206 44 ≤ x7 then (if x1 = 3 then (some ((-3), σ, τ)) else (some (x5, σ, τ))) else (if x1 = 0 then (B_X12_sheet_81 N rec_46 σ τ x1 x2 x4 x5 x6 x7 x6.toInt8.toInt32) else (if x1 = 1 then (B_X12_sheet_81 N rec_46 σ τ x1 x2 x4 x5 x6 x7 x6.toInt16.toInt32) else (B_X12_sheet_81 N rec_46 σ τ x1 x2 x4 x5 x6 x7 x6)))
def H_X12_sheet_46 (N : Nat) : Nat → gI → gJ → Int32 → Int32 → Int32 → Int32 → Int32 → Int32 → Option (Int32 × gI × gJ) := itn (fun rec_46 => C_X12_sheet_46 N rec_46) (fun _ _ _ _ _ _ _ _ => none)
def B_X12_sheet_0 (N : Nat) (σ : gI) (τ : gJ) (x1 : Int32) (x2 : Int32) (x3 : Int32) (x4 : Int32) : Option (Int32 × gI × gJ) := nm (up2 σ 199 0 0) fun σ_1 => bd (B_X12_in_0 N σ_1 τ x1.toInt64 0 3) fun r_2 σ_2 τ_2 => if r_2 = 0 then (some ((-1), σ_2, τ_2)) else (if x2 ≤ 6 then (if x1 = 3 then (H_X12_sheet_46 N N σ_2 τ_2 x1 x2 x4 0 x3 0) else (if 0 ≤ x2 then (H_X12_sheet_46 N N σ_2 τ_2 x1 x2 x4 0 x3 0) else (some ((-2), σ_2, τ_2)))) else (some ((-1), σ_2, τ_2)))
set_option maxHeartbeats 4000000 in
set_option maxRecDepth 100000 in
theorem b_X12_sheet_120 (l : Launch) (S : CallFix P9 m9 C9 cX12_sheet 9 s av.toArray gx_G RX12) (hr : meth.sig.returnType = (some .int)) (hlk : meth.locks = false) (hK : gx_K E s) (N : Nat) (rec_46 : gI → gJ → Int32 → Int32 → Int32 → Int32 → Int32 → Int32 → Option (Int32 × gI × gJ)) (hrec_46 : ∀ (σ : gI) (τ : gJ) (x1 : Int32) (x2 : Int32) (x4 : Int32) (x5 : Int32) (x6 : Int32) (x7 : Int32) (r : Int32) (σ1 : gI) (τ1 : gJ) (H : Heap) (locs : List Loc) (ls : Array Slot), rec_46 σ τ x1 x2 x4 x5 x6 x7 = some (r, σ1, τ1) → gx_W gx_tb gx_tb.length E s σ τ H locs → lv_has ls 9 [(0, .ref (E.2.2 + 199)), (1, .int x1), (2, .int x2), (4, .int x4), (5, .int x5), (6, .int x6), (7, .int x7)] → W P9 l e9 (gx_rm 1) s m9 av.toArray below meth C9 H locs 0 0 (gq_Qi below av s E r σ1 τ1) (F0 m9 46 ls [])) (σ : gI) (τ : gJ) (x1 : Int32) (x2 : Int32) (x4 : Int32) (x5 : Int32) (x6 : Int32) (x7 : Int32) (y0 : Int32) (y1 : Int32) {r : Int32} {σ1 : gI} {τ1 : gJ} (h : B_X12_sheet_120 N rec_46 σ τ x1 x2 x4 x5 x6 x7 y0 y1 = some (r, σ1, τ1)) {H : Heap} {locs : List Loc} {ls : Array Slot} (hw : gx_W gx_tb gx_tb.length E s σ τ H locs) (hl : lv_has ls 9 [(0, .ref (E.2.2 + 199)), (1, .int x1), (2, .int x2), (4, .int x4), (5, .int x5), (6, .int x6), (7, .int x7)]) : W P9 l e9 (gx_rm 1) s m9 av.toArray below meth C9 H locs 0 0 (gq_Qi below av s E r σ1 τ1) (F0 m9 120 ls [.int y0, .int y1, .ref (E.2.2 + 206)]) := by
  have hx := S.1
  have hb := S.2.1
  unfold B_X12_sheet_120 at h
  obtain ⟨j_1, hj_1, hi_1, h⟩ := ck_some h
  refine gx_iast S hK gx_ok hw t_206 j_1 hj_1 hi_1 dX12_sheet_120 (fun H locs hw => ?_)
  obtain ⟨σ_2, e_2, h⟩ := nm_some h
  rw [← e_2] at hw
  refine lv_iload hx hb dX12_sheet_121 (lv_at hl 4 rfl) ?_
  refine lv_aload_n hx hb dX12_sheet_123 rfl (lv_at hl 0 rfl) ?_
  refine gx_getr (j := 206) S hK hw t_199 cl_13 10 (by decide) rfl mw_1424 rfl dX12_sheet_124 ?_
  refine lv_bipush (v := 7) hx hb dX12_sheet_127 (by decide) ?_
  refine lv_iload hx hb dX12_sheet_129 (lv_at hl 6 rfl) ?_
  refine lv_imul hx hb dX12_sheet_131 ?_
  refine lv_iconst (v := 1) hx hb dX12_sheet_132 (by decide) ?_
  refine lv_iadd hx hb dX12_sheet_133 ?_
  obtain ⟨j_3, hj_3, hi_3, h⟩ := ck_some h
  refine gx_iald S hK hw t_206 j_3 hj_3 hi_3 dX12_sheet_134 ?_
  refine lv_iadd hx hb dX12_sheet_135 ?_
  refine lv_istore (lv' := [(5, .int (x5 + (σ_2 206 j_3))), (0, .ref (E.2.2 + 199)), (1, .int x1), (2, .int x2), (4, .int x4), (6, .int x6), (7, .int x7)]) hx hb dX12_sheet_136 hl (by decide) rfl (fun ls hl => ?_)
  obtain ⟨v_4, e_4, h⟩ := nm_some h
  have hl : lv_has ls 9 [(5, .int v_4), (0, .ref (E.2.2 + 199)), (1, .int x1), (2, .int x2), (4, .int x4), (6, .int x6), (7, .int x7)] := by rw [e_4]; exact hl
  refine lv_iload hx hb dX12_sheet_138 (lv_at hl 5 rfl) ?_
  refine lv_iload hx hb dX12_sheet_140 (lv_at hl 4 rfl) ?_
  refine lv_iadd hx hb dX12_sheet_142 ?_
  refine lv_istore (lv' := [(6, .int (x6 + x4)), (5, .int v_4), (0, .ref (E.2.2 + 199)), (1, .int x1), (2, .int x2), (4, .int x4), (7, .int x7)]) hx hb dX12_sheet_143 hl (by decide) rfl (fun ls hl => ?_)
  obtain ⟨v_5, e_5, h⟩ := nm_some h
  have hl : lv_has ls 9 [(6, .int v_5), (5, .int v_4), (0, .ref (E.2.2 + 199)), (1, .int x1), (2, .int x2), (4, .int x4), (7, .int x7)] := by rw [e_5]; exact hl
  refine lv_iinc (v := x7 + 1) (lv' := [(7, .int (x7 + 1)), (6, .int v_5), (5, .int v_4), (0, .ref (E.2.2 + 199)), (1, .int x1), (2, .int x2), (4, .int x4)]) hx hb dX12_sheet_145 hl (k := 6) rfl rfl (by decide) rfl (fun ls hl => ?_)
  obtain ⟨v_6, e_6, h⟩ := nm_some h
  have hl : lv_has ls 9 [(7, .int v_6), (6, .int v_5), (5, .int v_4), (0, .ref (E.2.2 + 199)), (1, .int x1), (2, .int x2), (4, .int x4)] := by rw [e_6]; exact hl
  refine lv_goto (tgt := 46) hx hb dX12_sheet_148 (by decide) ?_
  exact hrec_46 σ_2 τ x1 x2 x4 v_4 v_5 v_6 _ _ _ _ _ _ h hw (lv_sub hl [3, 4, 5, 6, 2, 1, 0] rfl)
set_option maxHeartbeats 4000000 in
set_option maxRecDepth 100000 in
theorem b_X12_sheet_81 (l : Launch) (S : CallFix P9 m9 C9 cX12_sheet 9 s av.toArray gx_G RX12) (hr : meth.sig.returnType = (some .int)) (hlk : meth.locks = false) (hK : gx_K E s) (N : Nat) (rec_46 : gI → gJ → Int32 → Int32 → Int32 → Int32 → Int32 → Int32 → Option (Int32 × gI × gJ)) (hrec_46 : ∀ (σ : gI) (τ : gJ) (x1 : Int32) (x2 : Int32) (x4 : Int32) (x5 : Int32) (x6 : Int32) (x7 : Int32) (r : Int32) (σ1 : gI) (τ1 : gJ) (H : Heap) (locs : List Loc) (ls : Array Slot), rec_46 σ τ x1 x2 x4 x5 x6 x7 = some (r, σ1, τ1) → gx_W gx_tb gx_tb.length E s σ τ H locs → lv_has ls 9 [(0, .ref (E.2.2 + 199)), (1, .int x1), (2, .int x2), (4, .int x4), (5, .int x5), (6, .int x6), (7, .int x7)] → W P9 l e9 (gx_rm 1) s m9 av.toArray below meth C9 H locs 0 0 (gq_Qi below av s E r σ1 τ1) (F0 m9 46 ls [])) (σ : gI) (τ : gJ) (x1 : Int32) (x2 : Int32) (x4 : Int32) (x5 : Int32) (x6 : Int32) (x7 : Int32) (y0 : Int32) {r : Int32} {σ1 : gI} {τ1 : gJ} (h : B_X12_sheet_81 N rec_46 σ τ x1 x2 x4 x5 x6 x7 y0 = some (r, σ1, τ1)) {H : Heap} {locs : List Loc} {ls : Array Slot} (hw : gx_W gx_tb gx_tb.length E s σ τ H locs) (hl : lv_has ls 9 [(0, .ref (E.2.2 + 199)), (1, .int x1), (2, .int x2), (4, .int x4), (5, .int x5), (6, .int x6), (7, .int x7)]) : W P9 l e9 (gx_rm 1) s m9 av.toArray below meth C9 H locs 0 0 (gq_Qi below av s E r σ1 τ1) (F0 m9 81 ls [.int y0]) := by
  have hx := S.1
  have hb := S.2.1
  unfold B_X12_sheet_81 at h
  refine lv_istore (lv' := [(8, .int y0), (0, .ref (E.2.2 + 199)), (1, .int x1), (2, .int x2), (4, .int x4), (5, .int x5), (6, .int x6), (7, .int x7)]) hx hb dX12_sheet_81 hl (by decide) rfl (fun ls hl => ?_)
  refine lv_aload_n hx hb dX12_sheet_83 rfl (lv_at hl 1 rfl) ?_
  refine gx_getr (j := 206) S hK hw t_199 cl_13 10 (by decide) rfl mw_1424 rfl dX12_sheet_84 ?_
  refine lv_bipush (v := 7) hx hb dX12_sheet_87 (by decide) ?_
  refine lv_iload hx hb dX12_sheet_89 (lv_at hl 7 rfl) ?_
  refine lv_imul hx hb dX12_sheet_91 ?_
  refine lv_iconst (v := 1) hx hb dX12_sheet_92 (by decide) ?_
  refine lv_iadd hx hb dX12_sheet_93 ?_
  refine lv_iload_n hx hb dX12_sheet_94 rfl (lv_at hl 2 rfl) ?_
  refine lv_iconst (v := 3) hx hb dX12_sheet_95 (by decide) ?_
  refine lv_icmp_eq (tgt := 105) hx hb dX12_sheet_96 (by decide) (fun c_1 => ?_) (fun c_1 => ?_)
  · rw [if_pos c_1] at h
    refine lv_iconst (v := 0) hx hb dX12_sheet_105 (by decide) ?_
    refine lv_goto (tgt := 120) hx hb dX12_sheet_106 (by decide) ?_
    exact b_X12_sheet_120 l S hr hlk hK N rec_46 hrec_46 σ τ x1 x2 x4 x5 x6 x7 0 ((7 * x7) + 1) h hw (lv_sub hl [1, 2, 3, 4, 5, 6, 7] rfl)
  · rw [if_neg c_1] at h
    refine lv_iload hx hb dX12_sheet_99 (lv_at hl 7 rfl) ?_
    refine lv_iload_n hx hb dX12_sheet_101 rfl (lv_at hl 3 rfl) ?_
    refine lv_icmp_lt (tgt := 109) hx hb dX12_sheet_102 (by decide) (fun c_2 => ?_) (fun c_2 => ?_)
    · rw [if_pos c_2] at h
      refine lv_iconst (v := 0) hx hb dX12_sheet_109 (by decide) ?_
      refine lv_bipush (v := 99) hx hb dX12_sheet_110 (by decide) ?_
      refine lv_iload hx hb dX12_sheet_112 (lv_at hl 0 rfl) ?_
      refine gx_min (w := imin 99 y0) S hl.1 mw_1614 mw_529 mw_102 mw_530 ⟨Nat.le_of_ble_eq_true rfl, Nat.le_of_ble_eq_true rfl⟩ ⟨Nat.le_of_ble_eq_true rfl, Nat.le_of_ble_eq_true rfl⟩ dX12_sheet_114 rfl ?_
      refine gx_max (w := imax 0 (imin 99 y0)) S hl.1 mw_1803 mw_577 mw_102 mw_578 ⟨Nat.le_of_ble_eq_true rfl, Nat.le_of_ble_eq_true rfl⟩ ⟨Nat.le_of_ble_eq_true rfl, Nat.le_of_ble_eq_true rfl⟩ dX12_sheet_117 rfl ?_
      exact b_X12_sheet_120 l S hr hlk hK N rec_46 hrec_46 σ τ x1 x2 x4 x5 x6 x7 (imax 0 (imin 99 y0)) ((7 * x7) + 1) h hw (lv_sub hl [1, 2, 3, 4, 5, 6, 7] rfl)
    · rw [if_neg c_2] at h
      refine lv_iconst (v := 0) hx hb dX12_sheet_105 (by decide) ?_
      refine lv_goto (tgt := 120) hx hb dX12_sheet_106 (by decide) ?_
      exact b_X12_sheet_120 l S hr hlk hK N rec_46 hrec_46 σ τ x1 x2 x4 x5 x6 x7 0 ((7 * x7) + 1) h hw (lv_sub hl [1, 2, 3, 4, 5, 6, 7] rfl)
set_option maxHeartbeats 4000000 in
set_option maxRecDepth 100000 in
theorem k_X12_sheet_46 (l : Launch) (S : CallFix P9 m9 C9 cX12_sheet 9 s av.toArray gx_G RX12) (hr : meth.sig.returnType = (some .int)) (hlk : meth.locks = false) (hK : gx_K E s) (N : Nat) (rec_46 : gI → gJ → Int32 → Int32 → Int32 → Int32 → Int32 → Int32 → Option (Int32 × gI × gJ)) (hrec_46 : ∀ (σ : gI) (τ : gJ) (x1 : Int32) (x2 : Int32) (x4 : Int32) (x5 : Int32) (x6 : Int32) (x7 : Int32) (r : Int32) (σ1 : gI) (τ1 : gJ) (H : Heap) (locs : List Loc) (ls : Array Slot), rec_46 σ τ x1 x2 x4 x5 x6 x7 = some (r, σ1, τ1) → gx_W gx_tb gx_tb.length E s σ τ H locs → lv_has ls 9 [(0, .ref (E.2.2 + 199)), (1, .int x1), (2, .int x2), (4, .int x4), (5, .int x5), (6, .int x6), (7, .int x7)] → W P9 l e9 (gx_rm 1) s m9 av.toArray below meth C9 H locs 0 0 (gq_Qi below av s E r σ1 τ1) (F0 m9 46 ls [])) (σ : gI) (τ : gJ) (x1 : Int32) (x2 : Int32) (x4 : Int32) (x5 : Int32) (x6 : Int32) (x7 : Int32) {r : Int32} {σ1 : gI} {τ1 : gJ} (h : C_X12_sheet_46 N rec_46 σ τ x1 x2 x4 x5 x6 x7 = some (r, σ1, τ1)) {H : Heap} {locs : List Loc} {ls : Array Slot} (hw : gx_W gx_tb gx_tb.length E s σ τ H locs) (hl : lv_has ls 9 [(0, .ref (E.2.2 + 199)), (1, .int x1), (2, .int x2), (4, .int x4), (5, .int x5), (6, .int x6), (7, .int x7)]) : W P9 l e9 (gx_rm 1) s m9 av.toArray below meth C9 H locs 0 0 (gq_Qi below av s E r σ1 τ1) (F0 m9 46 ls []) := by
  have hx := S.1
  have hb := S.2.1
  unfold C_X12_sheet_46 at h
  refine lv_iload hx hb dX12_sheet_46 (lv_at hl 6 rfl) ?_
  refine lv_aload_n hx hb dX12_sheet_48 rfl (lv_at hl 0 rfl) ?_
  refine gx_getr (j := 206) S hK hw t_199 cl_13 10 (by decide) rfl mw_1424 rfl dX12_sheet_49 ?_
  refine lv_bipush (v := 44) hx hb dX12_sheet_52 (by decide) ?_
  refine gx_iald S hK hw t_206 44 rfl (gx_in rfl (by decide) (by decide)) dX12_sheet_54 ?_
  refine lv_icmp_ge (tgt := 151) hx hb dX12_sheet_55 (by decide) (fun c_1 => ?_) (fun c_1 => ?_)
  · rw [if_pos c_1] at h
    refine lv_iload_n hx hb dX12_sheet_151 rfl (lv_at hl 1 rfl) ?_
    refine lv_iconst (v := 3) hx hb dX12_sheet_152 (by decide) ?_
    refine lv_icmp_ne (tgt := 161) hx hb dX12_sheet_153 (by decide) (fun c_2 => ?_) (fun c_2 => ?_)
    · rw [if_neg c_2] at h
      refine lv_iload hx hb dX12_sheet_161 (lv_at hl 4 rfl) ?_
      obtain ⟨rfl, rfl, rfl⟩ := sm_inj h
      exact gx_ri (post := gq_p x5 σ τ) (v := x5) S hr hlk hw rfl dX12_sheet_163 ⟨rfl, rfl, rfl⟩
    · rw [if_pos c_2] at h
      refine lv_bipush (v := (-3)) hx hb dX12_sheet_156 (by decide) ?_
      refine lv_goto (tgt := 163) hx hb dX12_sheet_158 (by decide) ?_
      obtain ⟨rfl, rfl, rfl⟩ := sm_inj h
      exact gx_ri (post := gq_p (-3) σ τ) (v := (-3)) S hr hlk hw rfl dX12_sheet_163 ⟨rfl, rfl, rfl⟩
  · rw [if_neg c_1] at h
    refine lv_iload_n hx hb dX12_sheet_58 rfl (lv_at hl 1 rfl) ?_
    refine lv_if_ne (tgt := 68) hx hb dX12_sheet_59 (by decide) (fun c_3 => ?_) (fun c_3 => ?_)
    · rw [if_neg c_3] at h
      refine lv_iload_n hx hb dX12_sheet_68 rfl (lv_at hl 1 rfl) ?_
      refine lv_iconst (v := 1) hx hb dX12_sheet_69 (by decide) ?_
      refine lv_icmp_ne (tgt := 79) hx hb dX12_sheet_70 (by decide) (fun c_4 => ?_) (fun c_4 => ?_)
      · rw [if_neg c_4] at h
        refine lv_iload hx hb dX12_sheet_79 (lv_at hl 5 rfl) ?_
        exact b_X12_sheet_81 l S hr hlk hK N rec_46 hrec_46 σ τ x1 x2 x4 x5 x6 x7 x6 h hw (lv_sub hl [0, 1, 2, 3, 4, 5, 6] rfl)
      · rw [if_pos c_4] at h
        refine lv_iload hx hb dX12_sheet_73 (lv_at hl 5 rfl) ?_
        refine lv_i2s (v := x6.toInt16.toInt32) hx hb dX12_sheet_75 rfl ?_
        refine lv_goto (tgt := 81) hx hb dX12_sheet_76 (by decide) ?_
        exact b_X12_sheet_81 l S hr hlk hK N rec_46 hrec_46 σ τ x1 x2 x4 x5 x6 x7 x6.toInt16.toInt32 h hw (lv_sub hl [0, 1, 2, 3, 4, 5, 6] rfl)
    · rw [if_pos c_3] at h
      refine lv_iload hx hb dX12_sheet_62 (lv_at hl 5 rfl) ?_
      refine lv_i2b (v := x6.toInt8.toInt32) hx hb dX12_sheet_64 rfl ?_
      refine lv_goto (tgt := 81) hx hb dX12_sheet_65 (by decide) ?_
      exact b_X12_sheet_81 l S hr hlk hK N rec_46 hrec_46 σ τ x1 x2 x4 x5 x6 x7 x6.toInt8.toInt32 h hw (lv_sub hl [0, 1, 2, 3, 4, 5, 6] rfl)
set_option maxHeartbeats 4000000 in
set_option maxRecDepth 100000 in
theorem h_X12_sheet_46 (l : Launch) (S : CallFix P9 m9 C9 cX12_sheet 9 s av.toArray gx_G RX12) (hr : meth.sig.returnType = (some .int)) (hlk : meth.locks = false) (hK : gx_K E s) (N : Nat) : ∀ (n : Nat) (σ : gI) (τ : gJ) (x1 : Int32) (x2 : Int32) (x4 : Int32) (x5 : Int32) (x6 : Int32) (x7 : Int32) (r : Int32) (σ1 : gI) (τ1 : gJ), H_X12_sheet_46 N n σ τ x1 x2 x4 x5 x6 x7 = some (r, σ1, τ1) → ∀ (H : Heap) (locs : List Loc) (ls : Array Slot), gx_W gx_tb gx_tb.length E s σ τ H locs → lv_has ls 9 [(0, .ref (E.2.2 + 199)), (1, .int x1), (2, .int x2), (4, .int x4), (5, .int x5), (6, .int x6), (7, .int x7)] → W P9 l e9 (gx_rm 1) s m9 av.toArray below meth C9 H locs 0 0 (gq_Qi below av s E r σ1 τ1) (F0 m9 46 ls []) := by
  intro n
  induction n with
  | zero => intro σ τ x1 x2 x4 x5 x6 x7 r σ1 τ1 h; cases h
  | succ n ih =>
    intro σ τ x1 x2 x4 x5 x6 x7 r σ1 τ1 h H locs ls hw hl
    exact k_X12_sheet_46 l S hr hlk hK N (H_X12_sheet_46 N n) (fun σ τ x1 x2 x4 x5 x6 x7 r σ1 τ1 H locs ls h hw hl => ih σ τ x1 x2 x4 x5 x6 x7 r σ1 τ1 h H locs ls hw hl) σ τ x1 x2 x4 x5 x6 x7 h hw hl
set_option maxHeartbeats 4000000 in
set_option maxRecDepth 100000 in
theorem b_X12_sheet_0 (l : Launch) (S : CallFix P9 m9 C9 cX12_sheet 9 s av.toArray gx_G RX12) (hr : meth.sig.returnType = (some .int)) (hlk : meth.locks = false) (hK : gx_K E s) (N : Nat) (σ : gI) (τ : gJ) (x1 : Int32) (x2 : Int32) (x3 : Int32) (x4 : Int32) {r : Int32} {σ1 : gI} {τ1 : gJ} (h : B_X12_sheet_0 N σ τ x1 x2 x3 x4 = some (r, σ1, τ1)) {H : Heap} {locs : List Loc} {ls : Array Slot} (hw : gx_W gx_tb gx_tb.length E s σ τ H locs) (hl : lv_has ls 9 [(0, .ref (E.2.2 + 199)), (1, .int x1), (2, .int x2), (3, .int x3), (4, .int x4)]) : W P9 l e9 (gx_rm 1) s m9 av.toArray below meth C9 H locs 0 0 (gq_Qi below av s E r σ1 τ1) (F0 m9 0 ls []) := by
  have hx := S.1
  have hb := S.2.1
  unfold B_X12_sheet_0 at h
  refine lv_aload_n hx hb dX12_sheet_0 rfl (lv_at hl 0 rfl) ?_
  refine lv_iconst (v := 0) hx hb dX12_sheet_1 (by decide) ?_
  refine gx_put S hK gx_ok hw t_199 cl_13 0 (by decide) rfl mw_1414 rfl rfl (ty := .int) (v := 0) (by decide +kernel) rfl rfl dX12_sheet_2 (fun H locs hw => ?_)
  obtain ⟨σ_1, e_1, h⟩ := nm_some h
  rw [← e_1] at hw
  refine lv_iload_n hx hb dX12_sheet_5 rfl (lv_at hl 1 rfl) ?_
  refine lv_i2l (v := x1.toInt64) hx hb dX12_sheet_6 rfl ?_
  refine lv_lconst (v := 0) hx hb dX12_sheet_7 (by decide) ?_
  refine lv_ldc2 (v := 3) hx hb S.2.2.2.1 (S.2.2.2.2 _ mw_1840) dX12_sheet_8 ?_
  obtain ⟨r_2, σ_2, τ_2, q_2, h⟩ := bd_some h
  refine gx_cSi (As := [.long x1.toInt64, .long 0, .long 3]) (rest := []) S hK gx_ok hw (c_X12_in l (E := E) N σ_1 τ x1.toInt64 0 3 q_2) cw_X12_129 ⟨Nat.le_of_ble_eq_true rfl, Nat.le_of_ble_eq_true rfl⟩ rfl hl.1 rfl (Nat.le_of_ble_eq_true rfl) ⟨Nat.le_of_ble_eq_true rfl, Nat.le_of_ble_eq_true rfl⟩ dX12_sheet_11 (fun r9 σ9 τ9 H locs hp hw => ?_)
  obtain ⟨rfl, rfl, rfl⟩ := hp
  refine lv_if_eq (tgt := 23) hx hb dX12_sheet_14 (by decide) (fun c_3 => ?_) (fun c_3 => ?_)
  · rw [if_pos c_3] at h
    refine lv_iconst (v := (-1)) hx hb dX12_sheet_23 (by decide) ?_
    obtain ⟨rfl, rfl, rfl⟩ := sm_inj h
    exact gx_ri (post := gq_p (-1) σ_2 τ_2) (v := (-1)) S hr hlk hw rfl dX12_sheet_24 ⟨rfl, rfl, rfl⟩
  · rw [if_neg c_3] at h
    refine lv_iload_n hx hb dX12_sheet_17 rfl (lv_at hl 2 rfl) ?_
    refine lv_bipush (v := 6) hx hb dX12_sheet_18 (by decide) ?_
    refine lv_icmp_le (tgt := 25) hx hb dX12_sheet_20 (by decide) (fun c_4 => ?_) (fun c_4 => ?_)
    · rw [if_pos c_4] at h
      refine lv_iload_n hx hb dX12_sheet_25 rfl (lv_at hl 1 rfl) ?_
      refine lv_iconst (v := 3) hx hb dX12_sheet_26 (by decide) ?_
      refine lv_icmp_eq (tgt := 37) hx hb dX12_sheet_27 (by decide) (fun c_5 => ?_) (fun c_5 => ?_)
      · rw [if_pos c_5] at h
        refine lv_iconst (v := 0) hx hb dX12_sheet_37 (by decide) ?_
        refine lv_istore (lv' := [(5, .int 0), (0, .ref (E.2.2 + 199)), (1, .int x1), (2, .int x2), (3, .int x3), (4, .int x4)]) hx hb dX12_sheet_38 hl (by decide) rfl (fun ls hl => ?_)
        refine lv_iload_n hx hb dX12_sheet_40 rfl (lv_at hl 4 rfl) ?_
        refine lv_istore (lv' := [(6, .int x3), (5, .int 0), (0, .ref (E.2.2 + 199)), (1, .int x1), (2, .int x2), (3, .int x3), (4, .int x4)]) hx hb dX12_sheet_41 hl (by decide) rfl (fun ls hl => ?_)
        refine lv_iconst (v := 0) hx hb dX12_sheet_43 (by decide) ?_
        refine lv_istore (lv' := [(7, .int 0), (6, .int x3), (5, .int 0), (0, .ref (E.2.2 + 199)), (1, .int x1), (2, .int x2), (3, .int x3), (4, .int x4)]) hx hb dX12_sheet_44 hl (by decide) rfl (fun ls hl => ?_)
        exact h_X12_sheet_46 l S hr hlk hK N N σ_2 τ_2 x1 x2 x4 0 x3 0 _ _ _ h _ _ _ hw (lv_sub hl [3, 4, 5, 7, 2, 1, 0] rfl)
      · rw [if_neg c_5] at h
        refine lv_iload_n hx hb dX12_sheet_30 rfl (lv_at hl 2 rfl) ?_
        refine lv_if_ge (tgt := 37) hx hb dX12_sheet_31 (by decide) (fun c_6 => ?_) (fun c_6 => ?_)
        · rw [if_pos c_6] at h
          refine lv_iconst (v := 0) hx hb dX12_sheet_37 (by decide) ?_
          refine lv_istore (lv' := [(5, .int 0), (0, .ref (E.2.2 + 199)), (1, .int x1), (2, .int x2), (3, .int x3), (4, .int x4)]) hx hb dX12_sheet_38 hl (by decide) rfl (fun ls hl => ?_)
          refine lv_iload_n hx hb dX12_sheet_40 rfl (lv_at hl 4 rfl) ?_
          refine lv_istore (lv' := [(6, .int x3), (5, .int 0), (0, .ref (E.2.2 + 199)), (1, .int x1), (2, .int x2), (3, .int x3), (4, .int x4)]) hx hb dX12_sheet_41 hl (by decide) rfl (fun ls hl => ?_)
          refine lv_iconst (v := 0) hx hb dX12_sheet_43 (by decide) ?_
          refine lv_istore (lv' := [(7, .int 0), (6, .int x3), (5, .int 0), (0, .ref (E.2.2 + 199)), (1, .int x1), (2, .int x2), (3, .int x3), (4, .int x4)]) hx hb dX12_sheet_44 hl (by decide) rfl (fun ls hl => ?_)
          exact h_X12_sheet_46 l S hr hlk hK N N σ_2 τ_2 x1 x2 x4 0 x3 0 _ _ _ h _ _ _ hw (lv_sub hl [3, 4, 5, 7, 2, 1, 0] rfl)
        · rw [if_neg c_6] at h
          refine lv_bipush (v := (-2)) hx hb dX12_sheet_34 (by decide) ?_
          obtain ⟨rfl, rfl, rfl⟩ := sm_inj h
          exact gx_ri (post := gq_p (-2) σ_2 τ_2) (v := (-2)) S hr hlk hw rfl dX12_sheet_36 ⟨rfl, rfl, rfl⟩
    · rw [if_neg c_4] at h
      refine lv_iconst (v := (-1)) hx hb dX12_sheet_23 (by decide) ?_
      obtain ⟨rfl, rfl, rfl⟩ := sm_inj h
      exact gx_ri (post := gq_p (-1) σ_2 τ_2) (v := (-1)) S hr hlk hw rfl dX12_sheet_24 ⟨rfl, rfl, rfl⟩
set_option maxHeartbeats 4000000 in
set_option maxRecDepth 100000 in
theorem c_X12_sheet (l : Launch) {E : gE} (N : Nat) (σ : gI) (τ : gJ) (x1 : Int32) (x2 : Int32) (x3 : Int32) (x4 : Int32) {r : Int32} {σ1 : gI} {τ1 : gJ} (h : B_X12_sheet_0 N σ τ x1 x2 x3 x4 = some (r, σ1, τ1)) : gx_Mi l yX12_sheet cX12_sheet 9 (some .int) 1 gx_tb E σ τ [.ref (E.2.2 + 199), .int x1, .int x2, .int x3, .int x4] (gq_p r σ1 τ1) := by
  refine gx_bi (by decide +kernel) (Nat.le_of_ble_eq_true rfl) ?_
  intro P9 e9 s m9 below meth C9 S hr hlk hK hw ls hl
  have hl : lv_has ls 9 [(0, .ref (E.2.2 + 199)), (1, .int x1), (2, .int x2), (3, .int x3), (4, .int x4)] := hl
  exact b_X12_sheet_0 l S hr hlk hK N σ τ x1 x2 x3 x4 h hw hl
/-! X12_sign -/
def C_X12_sign_18 (N : Nat) (rec_18 : gI → gJ → Int32 → Int32 → Option (Int32 × gI × gJ)) (σ : gI) (τ : gJ) (x1 : Int32) (x2 : Int32) : Option (Int32 × gI × gJ) := if 4 ≤ x2 then (nm (up2 σ 199 13 ((σ 199 13) + 4)) fun σ_2 => some (σ_2 199 13, σ_2, τ)) else (ck ((σ 199 13) + x2) 80 fun j_3 => nm (up2 σ 208 j_3 ((x1 >>> ((24 - (8 * x2)) &&& 31)) &&& 255)) fun σ_4 => nm (x2 + 1) fun v_5 => rec_18 σ_4 τ x1 v_5)
def H_X12_sign_18 (N : Nat) : Nat → gI → gJ → Int32 → Int32 → Option (Int32 × gI × gJ) := itn (fun rec_18 => C_X12_sign_18 N rec_18) (fun _ _ _ _ => none)
def B_X12_sign_0 (N : Nat) (σ : gI) (τ : gJ) (x1 : Int32) : Option (Int32 × gI × gJ) := nm (up2 σ 199 0 0) fun σ_1 => if σ_1 199 13 ≤ 76 then (H_X12_sign_18 N N σ_1 τ x1 0) else (some ((-1), σ_1, τ))
set_option maxHeartbeats 4000000 in
set_option maxRecDepth 100000 in
theorem k_X12_sign_18 (l : Launch) (S : CallFix P9 m9 C9 cX12_sign 3 s av.toArray gx_G RX12) (hr : meth.sig.returnType = (some .int)) (hlk : meth.locks = false) (hK : gx_K E s) (N : Nat) (rec_18 : gI → gJ → Int32 → Int32 → Option (Int32 × gI × gJ)) (hrec_18 : ∀ (σ : gI) (τ : gJ) (x1 : Int32) (x2 : Int32) (r : Int32) (σ1 : gI) (τ1 : gJ) (H : Heap) (locs : List Loc) (ls : Array Slot), rec_18 σ τ x1 x2 = some (r, σ1, τ1) → gx_W gx_tb gx_tb.length E s σ τ H locs → lv_has ls 3 [(0, .ref (E.2.2 + 199)), (1, .int x1), (2, .int x2)] → W P9 l e9 (gx_rm 0) s m9 av.toArray below meth C9 H locs 0 0 (gq_Qi below av s E r σ1 τ1) (F0 m9 18 ls [])) (σ : gI) (τ : gJ) (x1 : Int32) (x2 : Int32) {r : Int32} {σ1 : gI} {τ1 : gJ} (h : C_X12_sign_18 N rec_18 σ τ x1 x2 = some (r, σ1, τ1)) {H : Heap} {locs : List Loc} {ls : Array Slot} (hw : gx_W gx_tb gx_tb.length E s σ τ H locs) (hl : lv_has ls 3 [(0, .ref (E.2.2 + 199)), (1, .int x1), (2, .int x2)]) : W P9 l e9 (gx_rm 0) s m9 av.toArray below meth C9 H locs 0 0 (gq_Qi below av s E r σ1 τ1) (F0 m9 18 ls []) := by
  have hx := S.1
  have hb := S.2.1
  unfold C_X12_sign_18 at h
  refine lv_iload_n hx hb dX12_sign_18 rfl (lv_at hl 2 rfl) ?_
  refine lv_iconst (v := 4) hx hb dX12_sign_19 (by decide) ?_
  refine lv_icmp_ge (tgt := 53) hx hb dX12_sign_20 (by decide) (fun c_1 => ?_) (fun c_1 => ?_)
  · rw [if_pos c_1] at h
    refine lv_aload_n hx hb dX12_sign_53 rfl (lv_at hl 0 rfl) ?_
    refine lv_dup hx hb dX12_sign_54 rfl ?_
    refine gx_get S hK hw t_199 cl_13 13 (by decide) rfl mw_1427 rfl dX12_sign_55 ?_
    refine lv_iconst (v := 4) hx hb dX12_sign_58 (by decide) ?_
    refine lv_iadd hx hb dX12_sign_59 ?_
    refine gx_put S hK gx_ok hw t_199 cl_13 13 (by decide) rfl mw_1427 rfl rfl (ty := .int) (v := (σ 199 13) + 4) (by decide +kernel) rfl rfl dX12_sign_60 (fun H locs hw => ?_)
    obtain ⟨σ_2, e_2, h⟩ := nm_some h
    rw [← e_2] at hw
    refine lv_aload_n hx hb dX12_sign_63 rfl (lv_at hl 0 rfl) ?_
    refine gx_get S hK hw t_199 cl_13 13 (by decide) rfl mw_1427 rfl dX12_sign_64 ?_
    obtain ⟨rfl, rfl, rfl⟩ := sm_inj h
    exact gx_ri (post := gq_p (σ_2 199 13) σ_2 τ) (v := σ_2 199 13) S hr hlk hw rfl dX12_sign_67 ⟨rfl, rfl, rfl⟩
  · rw [if_neg c_1] at h
    refine lv_aload_n hx hb dX12_sign_23 rfl (lv_at hl 0 rfl) ?_
    refine gx_getr (j := 208) S hK hw t_199 cl_13 12 (by decide) rfl mw_1426 rfl dX12_sign_24 ?_
    refine lv_aload_n hx hb dX12_sign_27 rfl (lv_at hl 0 rfl) ?_
    refine gx_get S hK hw t_199 cl_13 13 (by decide) rfl mw_1427 rfl dX12_sign_28 ?_
    refine lv_iload_n hx hb dX12_sign_31 rfl (lv_at hl 2 rfl) ?_
    refine lv_iadd hx hb dX12_sign_32 ?_
    refine lv_iload_n hx hb dX12_sign_33 rfl (lv_at hl 1 rfl) ?_
    refine lv_bipush (v := 24) hx hb dX12_sign_34 (by decide) ?_
    refine lv_bipush (v := 8) hx hb dX12_sign_36 (by decide) ?_
    refine lv_iload_n hx hb dX12_sign_38 rfl (lv_at hl 2 rfl) ?_
    refine lv_imul hx hb dX12_sign_39 ?_
    refine lv_isub hx hb dX12_sign_40 ?_
    refine lv_ishr hx hb dX12_sign_41 ?_
    refine lv_sipush (v := 255) hx hb dX12_sign_42 (by decide) ?_
    refine lv_iand hx hb dX12_sign_45 ?_
    obtain ⟨j_3, hj_3, hi_3, h⟩ := ck_some h
    refine gx_iast S hK gx_ok hw t_208 j_3 hj_3 hi_3 dX12_sign_46 (fun H locs hw => ?_)
    obtain ⟨σ_4, e_4, h⟩ := nm_some h
    rw [← e_4] at hw
    refine lv_iinc (v := x2 + 1) (lv' := [(2, .int (x2 + 1)), (0, .ref (E.2.2 + 199)), (1, .int x1)]) hx hb dX12_sign_47 hl (k := 2) rfl rfl (by decide) rfl (fun ls hl => ?_)
    obtain ⟨v_5, e_5, h⟩ := nm_some h
    have hl : lv_has ls 3 [(2, .int v_5), (0, .ref (E.2.2 + 199)), (1, .int x1)] := by rw [e_5]; exact hl
    refine lv_goto (tgt := 18) hx hb dX12_sign_50 (by decide) ?_
    exact hrec_18 σ_4 τ x1 v_5 _ _ _ _ _ _ h hw (lv_sub hl [1, 2, 0] rfl)
set_option maxHeartbeats 4000000 in
set_option maxRecDepth 100000 in
theorem h_X12_sign_18 (l : Launch) (S : CallFix P9 m9 C9 cX12_sign 3 s av.toArray gx_G RX12) (hr : meth.sig.returnType = (some .int)) (hlk : meth.locks = false) (hK : gx_K E s) (N : Nat) : ∀ (n : Nat) (σ : gI) (τ : gJ) (x1 : Int32) (x2 : Int32) (r : Int32) (σ1 : gI) (τ1 : gJ), H_X12_sign_18 N n σ τ x1 x2 = some (r, σ1, τ1) → ∀ (H : Heap) (locs : List Loc) (ls : Array Slot), gx_W gx_tb gx_tb.length E s σ τ H locs → lv_has ls 3 [(0, .ref (E.2.2 + 199)), (1, .int x1), (2, .int x2)] → W P9 l e9 (gx_rm 0) s m9 av.toArray below meth C9 H locs 0 0 (gq_Qi below av s E r σ1 τ1) (F0 m9 18 ls []) := by
  intro n
  induction n with
  | zero => intro σ τ x1 x2 r σ1 τ1 h; cases h
  | succ n ih =>
    intro σ τ x1 x2 r σ1 τ1 h H locs ls hw hl
    exact k_X12_sign_18 l S hr hlk hK N (H_X12_sign_18 N n) (fun σ τ x1 x2 r σ1 τ1 H locs ls h hw hl => ih σ τ x1 x2 r σ1 τ1 h H locs ls hw hl) σ τ x1 x2 h hw hl
set_option maxHeartbeats 4000000 in
set_option maxRecDepth 100000 in
theorem b_X12_sign_0 (l : Launch) (S : CallFix P9 m9 C9 cX12_sign 3 s av.toArray gx_G RX12) (hr : meth.sig.returnType = (some .int)) (hlk : meth.locks = false) (hK : gx_K E s) (N : Nat) (σ : gI) (τ : gJ) (x1 : Int32) {r : Int32} {σ1 : gI} {τ1 : gJ} (h : B_X12_sign_0 N σ τ x1 = some (r, σ1, τ1)) {H : Heap} {locs : List Loc} {ls : Array Slot} (hw : gx_W gx_tb gx_tb.length E s σ τ H locs) (hl : lv_has ls 3 [(0, .ref (E.2.2 + 199)), (1, .int x1)]) : W P9 l e9 (gx_rm 0) s m9 av.toArray below meth C9 H locs 0 0 (gq_Qi below av s E r σ1 τ1) (F0 m9 0 ls []) := by
  have hx := S.1
  have hb := S.2.1
  unfold B_X12_sign_0 at h
  refine lv_aload_n hx hb dX12_sign_0 rfl (lv_at hl 0 rfl) ?_
  refine lv_iconst (v := 0) hx hb dX12_sign_1 (by decide) ?_
  refine gx_put S hK gx_ok hw t_199 cl_13 0 (by decide) rfl mw_1414 rfl rfl (ty := .int) (v := 0) (by decide +kernel) rfl rfl dX12_sign_2 (fun H locs hw => ?_)
  obtain ⟨σ_1, e_1, h⟩ := nm_some h
  rw [← e_1] at hw
  refine lv_aload_n hx hb dX12_sign_5 rfl (lv_at hl 0 rfl) ?_
  refine gx_get S hK hw t_199 cl_13 13 (by decide) rfl mw_1427 rfl dX12_sign_6 ?_
  refine lv_bipush (v := 76) hx hb dX12_sign_9 (by decide) ?_
  refine lv_icmp_le (tgt := 16) hx hb dX12_sign_11 (by decide) (fun c_2 => ?_) (fun c_2 => ?_)
  · rw [if_pos c_2] at h
    refine lv_iconst (v := 0) hx hb dX12_sign_16 (by decide) ?_
    refine lv_istore_n (lv' := [(2, .int 0), (0, .ref (E.2.2 + 199)), (1, .int x1)]) hx hb dX12_sign_17 rfl hl (by decide) rfl (fun ls hl => ?_)
    exact h_X12_sign_18 l S hr hlk hK N N σ_1 τ x1 0 _ _ _ h _ _ _ hw (lv_sub hl [1, 2, 0] rfl)
  · rw [if_neg c_2] at h
    refine lv_iconst (v := (-1)) hx hb dX12_sign_14 (by decide) ?_
    obtain ⟨rfl, rfl, rfl⟩ := sm_inj h
    exact gx_ri (post := gq_p (-1) σ_1 τ) (v := (-1)) S hr hlk hw rfl dX12_sign_15 ⟨rfl, rfl, rfl⟩
set_option maxHeartbeats 4000000 in
set_option maxRecDepth 100000 in
theorem c_X12_sign (l : Launch) {E : gE} (N : Nat) (σ : gI) (τ : gJ) (x1 : Int32) {r : Int32} {σ1 : gI} {τ1 : gJ} (h : B_X12_sign_0 N σ τ x1 = some (r, σ1, τ1)) : gx_Mi l yX12_sign cX12_sign 3 (some .int) 0 gx_tb E σ τ [.ref (E.2.2 + 199), .int x1] (gq_p r σ1 τ1) := by
  refine gx_bi (by decide +kernel) (Nat.le_of_ble_eq_true rfl) ?_
  intro P9 e9 s m9 below meth C9 S hr hlk hK hw ls hl
  have hl : lv_has ls 3 [(0, .ref (E.2.2 + 199)), (1, .int x1)] := hl
  exact b_X12_sign_0 l S hr hlk hK N σ τ x1 h hw hl
/-! X12_soonest -/
def C_X12_soonest_47 (N : Nat) (rec_35 : gI → gJ → Int32 → Int32 → Int32 → Int32 → Int32 → Int32 → Int32 → Option (Int32 × gI × gJ)) (rec_47 : gI → gJ → Int32 → Int32 → Int32 → Int32 → Int32 → Int32 → Int32 → Int32 → Option (Int32 × gI × gJ)) (σ : gI) (τ : gJ) (x1 : Int32) (x2 : Int32) (x3 : Int32) (x4 : Int32) (x5 : Int32) (x6 : Int32) (x7 : Int32) (x8 : Int32) : Option (Int32 × gI × gJ) := if 30 < x8 then (nm (x7 + 1) fun v_2 => rec_35 σ τ x1 x2 x3 x4 x5 x6 v_2) else (if x7 = x3 then (nm (x7 + 1) fun v_4 => rec_35 σ τ x1 x2 x3 x4 x5 x6 v_4) else (bd (B_X12_sails_0 N σ τ x7 x1 x2 x8 x3) fun r_5 σ_5 τ_5 => if r_5 < 0 then (nm (x8 + 1) fun v_7 => rec_47 σ_5 τ_5 x1 x2 x3 x4 x5 x6 x7 v_7) else (if x4 < 0 then (nm (x8 + 1) fun v_9 => rec_47 σ_5 τ_5 x1 x2 x3 r_5 x7 x8 x7 v_9) else (if x4 ≤ r_5 then (nm (x8 + 1) fun v_11 => rec_47 σ_5 τ_5 x1 x2 x3 x4 x5 x6 x7 v_11) else (nm (x8 + 1) fun v_12 => rec_47 σ_5 τ_5 x1 x2 x3 r_5 x7 x8 x7 v_12)))))
def H_X12_soonest_47 (N : Nat) (rec_35 : gI → gJ → Int32 → Int32 → Int32 → Int32 → Int32 → Int32 → Int32 → Option (Int32 × gI × gJ)) : Nat → gI → gJ → Int32 → Int32 → Int32 → Int32 → Int32 → Int32 → Int32 → Int32 → Option (Int32 × gI × gJ) := itn (fun rec_47 => C_X12_soonest_47 N rec_35 rec_47) (fun _ _ _ _ _ _ _ _ _ _ => none)
def C_X12_soonest_35 (N : Nat) (rec_35 : gI → gJ → Int32 → Int32 → Int32 → Int32 → Int32 → Int32 → Int32 → Option (Int32 × gI × gJ)) (σ : gI) (τ : gJ) (x1 : Int32) (x2 : Int32) (x3 : Int32) (x4 : Int32) (x5 : Int32) (x6 : Int32) (x7 : Int32) : Option (Int32 × gI × gJ) := if σ 199 3 ≤ x7 then (if 0 ≤ x4 then (nm (up2 σ 199 1 0) fun σ_3 => bd (B_X12_enters_0 N σ_3 τ x5.toInt64) fun _ σ_4 τ_4 => bd (B_X12_enters_0 N σ_4 τ_4 x6.toInt64) fun _ σ_5 τ_5 => some (x4, σ_5, τ_5)) else (some ((-2), σ, τ))) else (H_X12_soonest_47 N rec_35 N σ τ x1 x2 x3 x4 x5 x6 x7 0)
def H_X12_soonest_35 (N : Nat) : Nat → gI → gJ → Int32 → Int32 → Int32 → Int32 → Int32 → Int32 → Int32 → Option (Int32 × gI × gJ) := itn (fun rec_35 => C_X12_soonest_35 N rec_35) (fun _ _ _ _ _ _ _ _ _ => none)
def B_X12_soonest_0 (N : Nat) (σ : gI) (τ : gJ) (x1 : Int32) (x2 : Int32) (x3 : Int32) : Option (Int32 × gI × gJ) := nm (up2 σ 199 0 0) fun σ_1 => bd (B_X12_canSail_0 N σ_1 τ 0 x1 x2 x3) fun r_2 σ_2 τ_2 => if r_2 = 0 then (some ((-1), σ_2, τ_2)) else (bd (B_X12_thinksNow_0 N σ_2 τ_2) fun _ σ_4 τ_4 => H_X12_soonest_35 N N σ_4 τ_4 x1 x2 x3 (-2) 0 0 0)
set_option maxHeartbeats 4000000 in
set_option maxRecDepth 100000 in
theorem k_X12_soonest_47 (l : Launch) (S : CallFix P9 m9 C9 cX12_soonest 10 s av.toArray gx_G RX12) (hr : meth.sig.returnType = (some .int)) (hlk : meth.locks = false) (hK : gx_K E s) (N : Nat) (rec_35 : gI → gJ → Int32 → Int32 → Int32 → Int32 → Int32 → Int32 → Int32 → Option (Int32 × gI × gJ)) (hrec_35 : ∀ (σ : gI) (τ : gJ) (x1 : Int32) (x2 : Int32) (x3 : Int32) (x4 : Int32) (x5 : Int32) (x6 : Int32) (x7 : Int32) (r : Int32) (σ1 : gI) (τ1 : gJ) (H : Heap) (locs : List Loc) (ls : Array Slot), rec_35 σ τ x1 x2 x3 x4 x5 x6 x7 = some (r, σ1, τ1) → gx_W gx_tb gx_tb.length E s σ τ H locs → lv_has ls 10 [(0, .ref (E.2.2 + 199)), (1, .int x1), (2, .int x2), (3, .int x3), (4, .int x4), (5, .int x5), (6, .int x6), (7, .int x7)] → W P9 l e9 (gx_rm 9) s m9 av.toArray below meth C9 H locs 0 0 (gq_Qi below av s E r σ1 τ1) (F0 m9 35 ls [])) (rec_47 : gI → gJ → Int32 → Int32 → Int32 → Int32 → Int32 → Int32 → Int32 → Int32 → Option (Int32 × gI × gJ)) (hrec_47 : ∀ (σ : gI) (τ : gJ) (x1 : Int32) (x2 : Int32) (x3 : Int32) (x4 : Int32) (x5 : Int32) (x6 : Int32) (x7 : Int32) (x8 : Int32) (r : Int32) (σ1 : gI) (τ1 : gJ) (H : Heap) (locs : List Loc) (ls : Array Slot), rec_47 σ τ x1 x2 x3 x4 x5 x6 x7 x8 = some (r, σ1, τ1) → gx_W gx_tb gx_tb.length E s σ τ H locs → lv_has ls 10 [(0, .ref (E.2.2 + 199)), (1, .int x1), (2, .int x2), (3, .int x3), (4, .int x4), (5, .int x5), (6, .int x6), (7, .int x7), (8, .int x8)] → W P9 l e9 (gx_rm 9) s m9 av.toArray below meth C9 H locs 0 0 (gq_Qi below av s E r σ1 τ1) (F0 m9 47 ls [])) (σ : gI) (τ : gJ) (x1 : Int32) (x2 : Int32) (x3 : Int32) (x4 : Int32) (x5 : Int32) (x6 : Int32) (x7 : Int32) (x8 : Int32) {r : Int32} {σ1 : gI} {τ1 : gJ} (h : C_X12_soonest_47 N rec_35 rec_47 σ τ x1 x2 x3 x4 x5 x6 x7 x8 = some (r, σ1, τ1)) {H : Heap} {locs : List Loc} {ls : Array Slot} (hw : gx_W gx_tb gx_tb.length E s σ τ H locs) (hl : lv_has ls 10 [(0, .ref (E.2.2 + 199)), (1, .int x1), (2, .int x2), (3, .int x3), (4, .int x4), (5, .int x5), (6, .int x6), (7, .int x7), (8, .int x8)]) : W P9 l e9 (gx_rm 9) s m9 av.toArray below meth C9 H locs 0 0 (gq_Qi below av s E r σ1 τ1) (F0 m9 47 ls []) := by
  have hx := S.1
  have hb := S.2.1
  unfold C_X12_soonest_47 at h
  refine lv_iload hx hb dX12_soonest_47 (lv_at hl 8 rfl) ?_
  refine lv_bipush (v := 30) hx hb dX12_soonest_49 (by decide) ?_
  refine lv_icmp_gt (tgt := 108) hx hb dX12_soonest_51 (by decide) (fun c_1 => ?_) (fun c_1 => ?_)
  · rw [if_pos c_1] at h
    refine lv_iinc (v := x7 + 1) (lv' := [(7, .int (x7 + 1)), (0, .ref (E.2.2 + 199)), (1, .int x1), (2, .int x2), (3, .int x3), (4, .int x4), (5, .int x5), (6, .int x6), (8, .int x8)]) hx hb dX12_soonest_108 hl (k := 7) rfl rfl (by decide) rfl (fun ls hl => ?_)
    obtain ⟨v_2, e_2, h⟩ := nm_some h
    have hl : lv_has ls 10 [(7, .int v_2), (0, .ref (E.2.2 + 199)), (1, .int x1), (2, .int x2), (3, .int x3), (4, .int x4), (5, .int x5), (6, .int x6), (8, .int x8)] := by rw [e_2]; exact hl
    refine lv_goto (tgt := 35) hx hb dX12_soonest_111 (by decide) ?_
    exact hrec_35 σ τ x1 x2 x3 x4 x5 x6 v_2 _ _ _ _ _ _ h hw (lv_sub hl [1, 2, 3, 4, 5, 6, 7, 0] rfl)
  · rw [if_neg c_1] at h
    refine lv_iload hx hb dX12_soonest_54 (lv_at hl 7 rfl) ?_
    refine lv_iload_n hx hb dX12_soonest_56 rfl (lv_at hl 3 rfl) ?_
    refine lv_icmp_eq (tgt := 108) hx hb dX12_soonest_57 (by decide) (fun c_3 => ?_) (fun c_3 => ?_)
    · rw [if_pos c_3] at h
      refine lv_iinc (v := x7 + 1) (lv' := [(7, .int (x7 + 1)), (0, .ref (E.2.2 + 199)), (1, .int x1), (2, .int x2), (3, .int x3), (4, .int x4), (5, .int x5), (6, .int x6), (8, .int x8)]) hx hb dX12_soonest_108 hl (k := 7) rfl rfl (by decide) rfl (fun ls hl => ?_)
      obtain ⟨v_4, e_4, h⟩ := nm_some h
      have hl : lv_has ls 10 [(7, .int v_4), (0, .ref (E.2.2 + 199)), (1, .int x1), (2, .int x2), (3, .int x3), (4, .int x4), (5, .int x5), (6, .int x6), (8, .int x8)] := by rw [e_4]; exact hl
      refine lv_goto (tgt := 35) hx hb dX12_soonest_111 (by decide) ?_
      exact hrec_35 σ τ x1 x2 x3 x4 x5 x6 v_4 _ _ _ _ _ _ h hw (lv_sub hl [1, 2, 3, 4, 5, 6, 7, 0] rfl)
    · rw [if_neg c_3] at h
      refine lv_aload_n hx hb dX12_soonest_60 rfl (lv_at hl 0 rfl) ?_
      refine lv_iload hx hb dX12_soonest_61 (lv_at hl 7 rfl) ?_
      refine lv_iload_n hx hb dX12_soonest_63 rfl (lv_at hl 1 rfl) ?_
      refine lv_iload_n hx hb dX12_soonest_64 rfl (lv_at hl 2 rfl) ?_
      refine lv_iload hx hb dX12_soonest_65 (lv_at hl 8 rfl) ?_
      refine lv_iload_n hx hb dX12_soonest_67 rfl (lv_at hl 3 rfl) ?_
      obtain ⟨r_5, σ_5, τ_5, q_5, h⟩ := bd_some h
      refine gx_cVi (As := [.int x7, .int x1, .int x2, .int x8, .int x3]) (rest := []) S hK gx_ok hw (c_X12_sails l (E := E) N σ τ x7 x1 x2 x8 x3 q_5) cw_X12_412 t_199 cl_13 ⟨Nat.le_of_ble_eq_true rfl, Nat.le_of_ble_eq_true rfl⟩ rfl hl.1 rfl (Nat.le_of_ble_eq_true rfl) ⟨Nat.le_of_ble_eq_true rfl, Nat.le_of_ble_eq_true rfl⟩ dX12_soonest_68 (fun r9 σ9 τ9 H locs hp hw => ?_)
      obtain ⟨rfl, rfl, rfl⟩ := hp
      refine lv_istore (lv' := [(9, .int r_5), (0, .ref (E.2.2 + 199)), (1, .int x1), (2, .int x2), (3, .int x3), (4, .int x4), (5, .int x5), (6, .int x6), (7, .int x7), (8, .int x8)]) hx hb dX12_soonest_71 hl (by decide) rfl (fun ls hl => ?_)
      refine lv_iload hx hb dX12_soonest_73 (lv_at hl 0 rfl) ?_
      refine lv_if_lt (tgt := 102) hx hb dX12_soonest_75 (by decide) (fun c_6 => ?_) (fun c_6 => ?_)
      · rw [if_pos c_6] at h
        refine lv_iinc (v := x8 + 1) (lv' := [(8, .int (x8 + 1)), (9, .int r_5), (0, .ref (E.2.2 + 199)), (1, .int x1), (2, .int x2), (3, .int x3), (4, .int x4), (5, .int x5), (6, .int x6), (7, .int x7)]) hx hb dX12_soonest_102 hl (k := 9) rfl rfl (by decide) rfl (fun ls hl => ?_)
        obtain ⟨v_7, e_7, h⟩ := nm_some h
        have hl : lv_has ls 10 [(8, .int v_7), (9, .int r_5), (0, .ref (E.2.2 + 199)), (1, .int x1), (2, .int x2), (3, .int x3), (4, .int x4), (5, .int x5), (6, .int x6), (7, .int x7)] := by rw [e_7]; exact hl
        refine lv_goto (tgt := 47) hx hb dX12_soonest_105 (by decide) ?_
        exact hrec_47 σ_5 τ_5 x1 x2 x3 x4 x5 x6 x7 v_7 _ _ _ _ _ _ h hw (lv_sub hl [2, 3, 4, 5, 6, 7, 8, 9, 0] rfl)
      · rw [if_neg c_6] at h
        refine lv_iload hx hb dX12_soonest_78 (lv_at hl 5 rfl) ?_
        refine lv_if_lt (tgt := 90) hx hb dX12_soonest_80 (by decide) (fun c_8 => ?_) (fun c_8 => ?_)
        · rw [if_pos c_8] at h
          refine lv_iload hx hb dX12_soonest_90 (lv_at hl 0 rfl) ?_
          refine lv_istore (lv' := [(4, .int r_5), (9, .int r_5), (0, .ref (E.2.2 + 199)), (1, .int x1), (2, .int x2), (3, .int x3), (5, .int x5), (6, .int x6), (7, .int x7), (8, .int x8)]) hx hb dX12_soonest_92 hl (by decide) rfl (fun ls hl => ?_)
          refine lv_iload hx hb dX12_soonest_94 (lv_at hl 8 rfl) ?_
          refine lv_istore (lv' := [(5, .int x7), (4, .int r_5), (9, .int r_5), (0, .ref (E.2.2 + 199)), (1, .int x1), (2, .int x2), (3, .int x3), (6, .int x6), (7, .int x7), (8, .int x8)]) hx hb dX12_soonest_96 hl (by decide) rfl (fun ls hl => ?_)
          refine lv_iload hx hb dX12_soonest_98 (lv_at hl 9 rfl) ?_
          refine lv_istore (lv' := [(6, .int x8), (5, .int x7), (4, .int r_5), (9, .int r_5), (0, .ref (E.2.2 + 199)), (1, .int x1), (2, .int x2), (3, .int x3), (7, .int x7), (8, .int x8)]) hx hb dX12_soonest_100 hl (by decide) rfl (fun ls hl => ?_)
          refine lv_iinc (v := x8 + 1) (lv' := [(8, .int (x8 + 1)), (6, .int x8), (5, .int x7), (4, .int r_5), (9, .int r_5), (0, .ref (E.2.2 + 199)), (1, .int x1), (2, .int x2), (3, .int x3), (7, .int x7)]) hx hb dX12_soonest_102 hl (k := 9) rfl rfl (by decide) rfl (fun ls hl => ?_)
          obtain ⟨v_9, e_9, h⟩ := nm_some h
          have hl : lv_has ls 10 [(8, .int v_9), (6, .int x8), (5, .int x7), (4, .int r_5), (9, .int r_5), (0, .ref (E.2.2 + 199)), (1, .int x1), (2, .int x2), (3, .int x3), (7, .int x7)] := by rw [e_9]; exact hl
          refine lv_goto (tgt := 47) hx hb dX12_soonest_105 (by decide) ?_
          exact hrec_47 σ_5 τ_5 x1 x2 x3 r_5 x7 x8 x7 v_9 _ _ _ _ _ _ h hw (lv_sub hl [5, 6, 7, 8, 3, 2, 1, 9, 0] rfl)
        · rw [if_neg c_8] at h
          refine lv_iload hx hb dX12_soonest_83 (lv_at hl 0 rfl) ?_
          refine lv_iload hx hb dX12_soonest_85 (lv_at hl 5 rfl) ?_
          refine lv_icmp_ge (tgt := 102) hx hb dX12_soonest_87 (by decide) (fun c_10 => ?_) (fun c_10 => ?_)
          · rw [if_pos c_10] at h
            refine lv_iinc (v := x8 + 1) (lv' := [(8, .int (x8 + 1)), (9, .int r_5), (0, .ref (E.2.2 + 199)), (1, .int x1), (2, .int x2), (3, .int x3), (4, .int x4), (5, .int x5), (6, .int x6), (7, .int x7)]) hx hb dX12_soonest_102 hl (k := 9) rfl rfl (by decide) rfl (fun ls hl => ?_)
            obtain ⟨v_11, e_11, h⟩ := nm_some h
            have hl : lv_has ls 10 [(8, .int v_11), (9, .int r_5), (0, .ref (E.2.2 + 199)), (1, .int x1), (2, .int x2), (3, .int x3), (4, .int x4), (5, .int x5), (6, .int x6), (7, .int x7)] := by rw [e_11]; exact hl
            refine lv_goto (tgt := 47) hx hb dX12_soonest_105 (by decide) ?_
            exact hrec_47 σ_5 τ_5 x1 x2 x3 x4 x5 x6 x7 v_11 _ _ _ _ _ _ h hw (lv_sub hl [2, 3, 4, 5, 6, 7, 8, 9, 0] rfl)
          · rw [if_neg c_10] at h
            refine lv_iload hx hb dX12_soonest_90 (lv_at hl 0 rfl) ?_
            refine lv_istore (lv' := [(4, .int r_5), (9, .int r_5), (0, .ref (E.2.2 + 199)), (1, .int x1), (2, .int x2), (3, .int x3), (5, .int x5), (6, .int x6), (7, .int x7), (8, .int x8)]) hx hb dX12_soonest_92 hl (by decide) rfl (fun ls hl => ?_)
            refine lv_iload hx hb dX12_soonest_94 (lv_at hl 8 rfl) ?_
            refine lv_istore (lv' := [(5, .int x7), (4, .int r_5), (9, .int r_5), (0, .ref (E.2.2 + 199)), (1, .int x1), (2, .int x2), (3, .int x3), (6, .int x6), (7, .int x7), (8, .int x8)]) hx hb dX12_soonest_96 hl (by decide) rfl (fun ls hl => ?_)
            refine lv_iload hx hb dX12_soonest_98 (lv_at hl 9 rfl) ?_
            refine lv_istore (lv' := [(6, .int x8), (5, .int x7), (4, .int r_5), (9, .int r_5), (0, .ref (E.2.2 + 199)), (1, .int x1), (2, .int x2), (3, .int x3), (7, .int x7), (8, .int x8)]) hx hb dX12_soonest_100 hl (by decide) rfl (fun ls hl => ?_)
            refine lv_iinc (v := x8 + 1) (lv' := [(8, .int (x8 + 1)), (6, .int x8), (5, .int x7), (4, .int r_5), (9, .int r_5), (0, .ref (E.2.2 + 199)), (1, .int x1), (2, .int x2), (3, .int x3), (7, .int x7)]) hx hb dX12_soonest_102 hl (k := 9) rfl rfl (by decide) rfl (fun ls hl => ?_)
            obtain ⟨v_12, e_12, h⟩ := nm_some h
            have hl : lv_has ls 10 [(8, .int v_12), (6, .int x8), (5, .int x7), (4, .int r_5), (9, .int r_5), (0, .ref (E.2.2 + 199)), (1, .int x1), (2, .int x2), (3, .int x3), (7, .int x7)] := by rw [e_12]; exact hl
            refine lv_goto (tgt := 47) hx hb dX12_soonest_105 (by decide) ?_
            exact hrec_47 σ_5 τ_5 x1 x2 x3 r_5 x7 x8 x7 v_12 _ _ _ _ _ _ h hw (lv_sub hl [5, 6, 7, 8, 3, 2, 1, 9, 0] rfl)
set_option maxHeartbeats 4000000 in
set_option maxRecDepth 100000 in
theorem h_X12_soonest_47 (l : Launch) (S : CallFix P9 m9 C9 cX12_soonest 10 s av.toArray gx_G RX12) (hr : meth.sig.returnType = (some .int)) (hlk : meth.locks = false) (hK : gx_K E s) (N : Nat) (rec_35 : gI → gJ → Int32 → Int32 → Int32 → Int32 → Int32 → Int32 → Int32 → Option (Int32 × gI × gJ)) (hrec_35 : ∀ (σ : gI) (τ : gJ) (x1 : Int32) (x2 : Int32) (x3 : Int32) (x4 : Int32) (x5 : Int32) (x6 : Int32) (x7 : Int32) (r : Int32) (σ1 : gI) (τ1 : gJ) (H : Heap) (locs : List Loc) (ls : Array Slot), rec_35 σ τ x1 x2 x3 x4 x5 x6 x7 = some (r, σ1, τ1) → gx_W gx_tb gx_tb.length E s σ τ H locs → lv_has ls 10 [(0, .ref (E.2.2 + 199)), (1, .int x1), (2, .int x2), (3, .int x3), (4, .int x4), (5, .int x5), (6, .int x6), (7, .int x7)] → W P9 l e9 (gx_rm 9) s m9 av.toArray below meth C9 H locs 0 0 (gq_Qi below av s E r σ1 τ1) (F0 m9 35 ls [])) : ∀ (n : Nat) (σ : gI) (τ : gJ) (x1 : Int32) (x2 : Int32) (x3 : Int32) (x4 : Int32) (x5 : Int32) (x6 : Int32) (x7 : Int32) (x8 : Int32) (r : Int32) (σ1 : gI) (τ1 : gJ), H_X12_soonest_47 N rec_35 n σ τ x1 x2 x3 x4 x5 x6 x7 x8 = some (r, σ1, τ1) → ∀ (H : Heap) (locs : List Loc) (ls : Array Slot), gx_W gx_tb gx_tb.length E s σ τ H locs → lv_has ls 10 [(0, .ref (E.2.2 + 199)), (1, .int x1), (2, .int x2), (3, .int x3), (4, .int x4), (5, .int x5), (6, .int x6), (7, .int x7), (8, .int x8)] → W P9 l e9 (gx_rm 9) s m9 av.toArray below meth C9 H locs 0 0 (gq_Qi below av s E r σ1 τ1) (F0 m9 47 ls []) := by
  intro n
  induction n with
  | zero => intro σ τ x1 x2 x3 x4 x5 x6 x7 x8 r σ1 τ1 h; cases h
  | succ n ih =>
    intro σ τ x1 x2 x3 x4 x5 x6 x7 x8 r σ1 τ1 h H locs ls hw hl
    exact k_X12_soonest_47 l S hr hlk hK N rec_35 hrec_35 (H_X12_soonest_47 N rec_35 n) (fun σ τ x1 x2 x3 x4 x5 x6 x7 x8 r σ1 τ1 H locs ls h hw hl => ih σ τ x1 x2 x3 x4 x5 x6 x7 x8 r σ1 τ1 h H locs ls hw hl) σ τ x1 x2 x3 x4 x5 x6 x7 x8 h hw hl
set_option maxHeartbeats 4000000 in
set_option maxRecDepth 100000 in
theorem k_X12_soonest_35 (l : Launch) (S : CallFix P9 m9 C9 cX12_soonest 10 s av.toArray gx_G RX12) (hr : meth.sig.returnType = (some .int)) (hlk : meth.locks = false) (hK : gx_K E s) (N : Nat) (rec_35 : gI → gJ → Int32 → Int32 → Int32 → Int32 → Int32 → Int32 → Int32 → Option (Int32 × gI × gJ)) (hrec_35 : ∀ (σ : gI) (τ : gJ) (x1 : Int32) (x2 : Int32) (x3 : Int32) (x4 : Int32) (x5 : Int32) (x6 : Int32) (x7 : Int32) (r : Int32) (σ1 : gI) (τ1 : gJ) (H : Heap) (locs : List Loc) (ls : Array Slot), rec_35 σ τ x1 x2 x3 x4 x5 x6 x7 = some (r, σ1, τ1) → gx_W gx_tb gx_tb.length E s σ τ H locs → lv_has ls 10 [(0, .ref (E.2.2 + 199)), (1, .int x1), (2, .int x2), (3, .int x3), (4, .int x4), (5, .int x5), (6, .int x6), (7, .int x7)] → W P9 l e9 (gx_rm 9) s m9 av.toArray below meth C9 H locs 0 0 (gq_Qi below av s E r σ1 τ1) (F0 m9 35 ls [])) (σ : gI) (τ : gJ) (x1 : Int32) (x2 : Int32) (x3 : Int32) (x4 : Int32) (x5 : Int32) (x6 : Int32) (x7 : Int32) {r : Int32} {σ1 : gI} {τ1 : gJ} (h : C_X12_soonest_35 N rec_35 σ τ x1 x2 x3 x4 x5 x6 x7 = some (r, σ1, τ1)) {H : Heap} {locs : List Loc} {ls : Array Slot} (hw : gx_W gx_tb gx_tb.length E s σ τ H locs) (hl : lv_has ls 10 [(0, .ref (E.2.2 + 199)), (1, .int x1), (2, .int x2), (3, .int x3), (4, .int x4), (5, .int x5), (6, .int x6), (7, .int x7)]) : W P9 l e9 (gx_rm 9) s m9 av.toArray below meth C9 H locs 0 0 (gq_Qi below av s E r σ1 τ1) (F0 m9 35 ls []) := by
  have hx := S.1
  have hb := S.2.1
  unfold C_X12_soonest_35 at h
  refine lv_iload hx hb dX12_soonest_35 (lv_at hl 7 rfl) ?_
  refine lv_aload_n hx hb dX12_soonest_37 rfl (lv_at hl 0 rfl) ?_
  refine gx_get S hK hw t_199 cl_13 3 (by decide) rfl mw_1417 rfl dX12_soonest_38 ?_
  refine lv_icmp_ge (tgt := 114) hx hb dX12_soonest_41 (by decide) (fun c_1 => ?_) (fun c_1 => ?_)
  · rw [if_pos c_1] at h
    refine lv_iload hx hb dX12_soonest_114 (lv_at hl 4 rfl) ?_
    refine lv_if_ge (tgt := 122) hx hb dX12_soonest_116 (by decide) (fun c_2 => ?_) (fun c_2 => ?_)
    · rw [if_pos c_2] at h
      refine lv_aload_n hx hb dX12_soonest_122 rfl (lv_at hl 0 rfl) ?_
      refine lv_iconst (v := 0) hx hb dX12_soonest_123 (by decide) ?_
      refine gx_put S hK gx_ok hw t_199 cl_13 1 (by decide) rfl mw_1415 rfl rfl (ty := .int) (v := 0) (by decide +kernel) rfl rfl dX12_soonest_124 (fun H locs hw => ?_)
      obtain ⟨σ_3, e_3, h⟩ := nm_some h
      rw [← e_3] at hw
      refine lv_aload_n hx hb dX12_soonest_127 rfl (lv_at hl 0 rfl) ?_
      refine lv_iload hx hb dX12_soonest_128 (lv_at hl 5 rfl) ?_
      refine lv_i2l (v := x5.toInt64) hx hb dX12_soonest_130 rfl ?_
      obtain ⟨u_4, σ_4, τ_4, q_4, h⟩ := bd_some h
      refine gx_cVv (As := [.long x5.toInt64]) (rest := []) S hK gx_ok hw (c_X12_enters l (E := E) N σ_3 τ x5.toInt64 q_4) cw_X12_122 t_199 cl_13 ⟨Nat.le_of_ble_eq_true rfl, Nat.le_of_ble_eq_true rfl⟩ rfl hl.1 rfl (Nat.le_of_ble_eq_true rfl) ⟨Nat.le_of_ble_eq_true rfl, Nat.le_of_ble_eq_true rfl⟩ dX12_soonest_131 (fun σ9 τ9 H locs hp hw => ?_)
      obtain ⟨rfl, rfl⟩ := hp
      refine lv_aload_n hx hb dX12_soonest_134 rfl (lv_at hl 0 rfl) ?_
      refine lv_iload hx hb dX12_soonest_135 (lv_at hl 6 rfl) ?_
      refine lv_i2l (v := x6.toInt64) hx hb dX12_soonest_137 rfl ?_
      obtain ⟨u_5, σ_5, τ_5, q_5, h⟩ := bd_some h
      refine gx_cVv (As := [.long x6.toInt64]) (rest := []) S hK gx_ok hw (c_X12_enters l (E := E) N σ_4 τ_4 x6.toInt64 q_5) cw_X12_122 t_199 cl_13 ⟨Nat.le_of_ble_eq_true rfl, Nat.le_of_ble_eq_true rfl⟩ rfl hl.1 rfl (Nat.le_of_ble_eq_true rfl) ⟨Nat.le_of_ble_eq_true rfl, Nat.le_of_ble_eq_true rfl⟩ dX12_soonest_138 (fun σ9 τ9 H locs hp hw => ?_)
      obtain ⟨rfl, rfl⟩ := hp
      refine lv_iload hx hb dX12_soonest_141 (lv_at hl 4 rfl) ?_
      obtain ⟨rfl, rfl, rfl⟩ := sm_inj h
      exact gx_ri (post := gq_p x4 σ_5 τ_5) (v := x4) S hr hlk hw rfl dX12_soonest_143 ⟨rfl, rfl, rfl⟩
    · rw [if_neg c_2] at h
      refine lv_bipush (v := (-2)) hx hb dX12_soonest_119 (by decide) ?_
      obtain ⟨rfl, rfl, rfl⟩ := sm_inj h
      exact gx_ri (post := gq_p (-2) σ τ) (v := (-2)) S hr hlk hw rfl dX12_soonest_121 ⟨rfl, rfl, rfl⟩
  · rw [if_neg c_1] at h
    refine lv_iconst (v := 0) hx hb dX12_soonest_44 (by decide) ?_
    refine lv_istore (lv' := [(8, .int 0), (0, .ref (E.2.2 + 199)), (1, .int x1), (2, .int x2), (3, .int x3), (4, .int x4), (5, .int x5), (6, .int x6), (7, .int x7)]) hx hb dX12_soonest_45 hl (by decide) rfl (fun ls hl => ?_)
    exact h_X12_soonest_47 l S hr hlk hK N rec_35 hrec_35 N σ τ x1 x2 x3 x4 x5 x6 x7 0 _ _ _ h _ _ _ hw (lv_sub hl [1, 2, 3, 4, 5, 6, 7, 8, 0] rfl)
set_option maxHeartbeats 4000000 in
set_option maxRecDepth 100000 in
theorem h_X12_soonest_35 (l : Launch) (S : CallFix P9 m9 C9 cX12_soonest 10 s av.toArray gx_G RX12) (hr : meth.sig.returnType = (some .int)) (hlk : meth.locks = false) (hK : gx_K E s) (N : Nat) : ∀ (n : Nat) (σ : gI) (τ : gJ) (x1 : Int32) (x2 : Int32) (x3 : Int32) (x4 : Int32) (x5 : Int32) (x6 : Int32) (x7 : Int32) (r : Int32) (σ1 : gI) (τ1 : gJ), H_X12_soonest_35 N n σ τ x1 x2 x3 x4 x5 x6 x7 = some (r, σ1, τ1) → ∀ (H : Heap) (locs : List Loc) (ls : Array Slot), gx_W gx_tb gx_tb.length E s σ τ H locs → lv_has ls 10 [(0, .ref (E.2.2 + 199)), (1, .int x1), (2, .int x2), (3, .int x3), (4, .int x4), (5, .int x5), (6, .int x6), (7, .int x7)] → W P9 l e9 (gx_rm 9) s m9 av.toArray below meth C9 H locs 0 0 (gq_Qi below av s E r σ1 τ1) (F0 m9 35 ls []) := by
  intro n
  induction n with
  | zero => intro σ τ x1 x2 x3 x4 x5 x6 x7 r σ1 τ1 h; cases h
  | succ n ih =>
    intro σ τ x1 x2 x3 x4 x5 x6 x7 r σ1 τ1 h H locs ls hw hl
    exact k_X12_soonest_35 l S hr hlk hK N (H_X12_soonest_35 N n) (fun σ τ x1 x2 x3 x4 x5 x6 x7 r σ1 τ1 H locs ls h hw hl => ih σ τ x1 x2 x3 x4 x5 x6 x7 r σ1 τ1 h H locs ls hw hl) σ τ x1 x2 x3 x4 x5 x6 x7 h hw hl
set_option maxHeartbeats 4000000 in
set_option maxRecDepth 100000 in
theorem b_X12_soonest_0 (l : Launch) (S : CallFix P9 m9 C9 cX12_soonest 10 s av.toArray gx_G RX12) (hr : meth.sig.returnType = (some .int)) (hlk : meth.locks = false) (hK : gx_K E s) (N : Nat) (σ : gI) (τ : gJ) (x1 : Int32) (x2 : Int32) (x3 : Int32) {r : Int32} {σ1 : gI} {τ1 : gJ} (h : B_X12_soonest_0 N σ τ x1 x2 x3 = some (r, σ1, τ1)) {H : Heap} {locs : List Loc} {ls : Array Slot} (hw : gx_W gx_tb gx_tb.length E s σ τ H locs) (hl : lv_has ls 10 [(0, .ref (E.2.2 + 199)), (1, .int x1), (2, .int x2), (3, .int x3)]) : W P9 l e9 (gx_rm 9) s m9 av.toArray below meth C9 H locs 0 0 (gq_Qi below av s E r σ1 τ1) (F0 m9 0 ls []) := by
  have hx := S.1
  have hb := S.2.1
  unfold B_X12_soonest_0 at h
  refine lv_aload_n hx hb dX12_soonest_0 rfl (lv_at hl 0 rfl) ?_
  refine lv_iconst (v := 0) hx hb dX12_soonest_1 (by decide) ?_
  refine gx_put S hK gx_ok hw t_199 cl_13 0 (by decide) rfl mw_1414 rfl rfl (ty := .int) (v := 0) (by decide +kernel) rfl rfl dX12_soonest_2 (fun H locs hw => ?_)
  obtain ⟨σ_1, e_1, h⟩ := nm_some h
  rw [← e_1] at hw
  refine lv_aload_n hx hb dX12_soonest_5 rfl (lv_at hl 0 rfl) ?_
  refine lv_iconst (v := 0) hx hb dX12_soonest_6 (by decide) ?_
  refine lv_iload_n hx hb dX12_soonest_7 rfl (lv_at hl 1 rfl) ?_
  refine lv_iload_n hx hb dX12_soonest_8 rfl (lv_at hl 2 rfl) ?_
  refine lv_iload_n hx hb dX12_soonest_9 rfl (lv_at hl 3 rfl) ?_
  obtain ⟨r_2, σ_2, τ_2, q_2, h⟩ := bd_some h
  refine gx_cVi (As := [.int 0, .int x1, .int x2, .int x3]) (rest := []) S hK gx_ok hw (c_X12_canSail l (E := E) N σ_1 τ 0 x1 x2 x3 q_2) cw_X12_405 t_199 cl_13 ⟨Nat.le_of_ble_eq_true rfl, Nat.le_of_ble_eq_true rfl⟩ rfl hl.1 rfl (Nat.le_of_ble_eq_true rfl) ⟨Nat.le_of_ble_eq_true rfl, Nat.le_of_ble_eq_true rfl⟩ dX12_soonest_10 (fun r9 σ9 τ9 H locs hp hw => ?_)
  obtain ⟨rfl, rfl, rfl⟩ := hp
  refine lv_if_ne (tgt := 18) hx hb dX12_soonest_13 (by decide) (fun c_3 => ?_) (fun c_3 => ?_)
  · rw [if_neg c_3] at h
    refine lv_aload_n hx hb dX12_soonest_18 rfl (lv_at hl 0 rfl) ?_
    obtain ⟨u_4, σ_4, τ_4, q_4, h⟩ := bd_some h
    refine gx_cVv (As := []) (rest := []) S hK gx_ok hw (c_X12_thinksNow l (E := E) N σ_2 τ_2 q_4) cw_X12_409 t_199 cl_13 ⟨Nat.le_of_ble_eq_true rfl, Nat.le_of_ble_eq_true rfl⟩ rfl hl.1 rfl (Nat.le_of_ble_eq_true rfl) ⟨Nat.le_of_ble_eq_true rfl, Nat.le_of_ble_eq_true rfl⟩ dX12_soonest_19 (fun σ9 τ9 H locs hp hw => ?_)
    obtain ⟨rfl, rfl⟩ := hp
    refine lv_bipush (v := (-2)) hx hb dX12_soonest_22 (by decide) ?_
    refine lv_istore (lv' := [(4, .int (-2)), (0, .ref (E.2.2 + 199)), (1, .int x1), (2, .int x2), (3, .int x3)]) hx hb dX12_soonest_24 hl (by decide) rfl (fun ls hl => ?_)
    refine lv_iconst (v := 0) hx hb dX12_soonest_26 (by decide) ?_
    refine lv_istore (lv' := [(5, .int 0), (4, .int (-2)), (0, .ref (E.2.2 + 199)), (1, .int x1), (2, .int x2), (3, .int x3)]) hx hb dX12_soonest_27 hl (by decide) rfl (fun ls hl => ?_)
    refine lv_iconst (v := 0) hx hb dX12_soonest_29 (by decide) ?_
    refine lv_istore (lv' := [(6, .int 0), (5, .int 0), (4, .int (-2)), (0, .ref (E.2.2 + 199)), (1, .int x1), (2, .int x2), (3, .int x3)]) hx hb dX12_soonest_30 hl (by decide) rfl (fun ls hl => ?_)
    refine lv_iconst (v := 0) hx hb dX12_soonest_32 (by decide) ?_
    refine lv_istore (lv' := [(7, .int 0), (6, .int 0), (5, .int 0), (4, .int (-2)), (0, .ref (E.2.2 + 199)), (1, .int x1), (2, .int x2), (3, .int x3)]) hx hb dX12_soonest_33 hl (by decide) rfl (fun ls hl => ?_)
    exact h_X12_soonest_35 l S hr hlk hK N N σ_4 τ_4 x1 x2 x3 (-2) 0 0 0 _ _ _ h _ _ _ hw (lv_sub hl [4, 5, 6, 7, 3, 2, 1, 0] rfl)
  · rw [if_pos c_3] at h
    refine lv_iconst (v := (-1)) hx hb dX12_soonest_16 (by decide) ?_
    obtain ⟨rfl, rfl, rfl⟩ := sm_inj h
    exact gx_ri (post := gq_p (-1) σ_2 τ_2) (v := (-1)) S hr hlk hw rfl dX12_soonest_17 ⟨rfl, rfl, rfl⟩
set_option maxHeartbeats 4000000 in
set_option maxRecDepth 100000 in
theorem c_X12_soonest (l : Launch) {E : gE} (N : Nat) (σ : gI) (τ : gJ) (x1 : Int32) (x2 : Int32) (x3 : Int32) {r : Int32} {σ1 : gI} {τ1 : gJ} (h : B_X12_soonest_0 N σ τ x1 x2 x3 = some (r, σ1, τ1)) : gx_Mi l yX12_soonest cX12_soonest 10 (some .int) 9 gx_tb E σ τ [.ref (E.2.2 + 199), .int x1, .int x2, .int x3] (gq_p r σ1 τ1) := by
  refine gx_bi (by decide +kernel) (Nat.le_of_ble_eq_true rfl) ?_
  intro P9 e9 s m9 below meth C9 S hr hlk hK hw ls hl
  have hl : lv_has ls 10 [(0, .ref (E.2.2 + 199)), (1, .int x1), (2, .int x2), (3, .int x3)] := hl
  exact b_X12_soonest_0 l S hr hlk hK N σ τ x1 x2 x3 h hw hl
/-! X12_steer -/
def B_X12_steer_0 (N : Nat) (σ : gI) (τ : gJ) (x1 : Int32) (x2 : Int32) : Option (Int32 × gI × gJ) := nm (up2 σ 199 0 0) fun σ_1 => bd (B_X12_isThing_0 N σ_1 τ x1) fun r_2 σ_2 τ_2 => if r_2 = 0 then (some ((-1), σ_2, τ_2)) else (bd (B_X12_isKitchen_0 N σ_2 τ_2 x2) fun r_4 σ_4 τ_4 => if r_4 = 0 then (some ((-1), σ_4, τ_4)) else (bd (B_X12_saves_0 N σ_4 τ_4 (1 <<< (x1 &&& 31)) x2 x1) fun r_6 σ_6 τ_6 => some (r_6, σ_6, τ_6)))
set_option maxHeartbeats 4000000 in
set_option maxRecDepth 100000 in
theorem b_X12_steer_0 (l : Launch) (S : CallFix P9 m9 C9 cX12_steer 3 s av.toArray gx_G RX12) (hr : meth.sig.returnType = (some .int)) (hlk : meth.locks = false) (hK : gx_K E s) (N : Nat) (σ : gI) (τ : gJ) (x1 : Int32) (x2 : Int32) {r : Int32} {σ1 : gI} {τ1 : gJ} (h : B_X12_steer_0 N σ τ x1 x2 = some (r, σ1, τ1)) {H : Heap} {locs : List Loc} {ls : Array Slot} (hw : gx_W gx_tb gx_tb.length E s σ τ H locs) (hl : lv_has ls 3 [(0, .ref (E.2.2 + 199)), (1, .int x1), (2, .int x2)]) : W P9 l e9 (gx_rm 8) s m9 av.toArray below meth C9 H locs 0 0 (gq_Qi below av s E r σ1 τ1) (F0 m9 0 ls []) := by
  have hx := S.1
  have hb := S.2.1
  unfold B_X12_steer_0 at h
  refine lv_aload_n hx hb dX12_steer_0 rfl (lv_at hl 0 rfl) ?_
  refine lv_iconst (v := 0) hx hb dX12_steer_1 (by decide) ?_
  refine gx_put S hK gx_ok hw t_199 cl_13 0 (by decide) rfl mw_1414 rfl rfl (ty := .int) (v := 0) (by decide +kernel) rfl rfl dX12_steer_2 (fun H locs hw => ?_)
  obtain ⟨σ_1, e_1, h⟩ := nm_some h
  rw [← e_1] at hw
  refine lv_aload_n hx hb dX12_steer_5 rfl (lv_at hl 0 rfl) ?_
  refine lv_iload_n hx hb dX12_steer_6 rfl (lv_at hl 1 rfl) ?_
  obtain ⟨r_2, σ_2, τ_2, q_2, h⟩ := bd_some h
  refine gx_cVi (As := [.int x1]) (rest := []) S hK gx_ok hw (c_X12_isThing l (E := E) N σ_1 τ x1 q_2) cw_X12_309 t_199 cl_13 ⟨Nat.le_of_ble_eq_true rfl, Nat.le_of_ble_eq_true rfl⟩ rfl hl.1 rfl (Nat.le_of_ble_eq_true rfl) ⟨Nat.le_of_ble_eq_true rfl, Nat.le_of_ble_eq_true rfl⟩ dX12_steer_7 (fun r9 σ9 τ9 H locs hp hw => ?_)
  obtain ⟨rfl, rfl, rfl⟩ := hp
  refine lv_if_eq (tgt := 33) hx hb dX12_steer_10 (by decide) (fun c_3 => ?_) (fun c_3 => ?_)
  · rw [if_pos c_3] at h
    refine lv_iconst (v := (-1)) hx hb dX12_steer_33 (by decide) ?_
    obtain ⟨rfl, rfl, rfl⟩ := sm_inj h
    exact gx_ri (post := gq_p (-1) σ_2 τ_2) (v := (-1)) S hr hlk hw rfl dX12_steer_34 ⟨rfl, rfl, rfl⟩
  · rw [if_neg c_3] at h
    refine lv_aload_n hx hb dX12_steer_13 rfl (lv_at hl 0 rfl) ?_
    refine lv_iload_n hx hb dX12_steer_14 rfl (lv_at hl 2 rfl) ?_
    obtain ⟨r_4, σ_4, τ_4, q_4, h⟩ := bd_some h
    refine gx_cVi (As := [.int x2]) (rest := []) S hK gx_ok hw (c_X12_isKitchen l (E := E) N σ_2 τ_2 x2 q_4) cw_X12_402 t_199 cl_13 ⟨Nat.le_of_ble_eq_true rfl, Nat.le_of_ble_eq_true rfl⟩ rfl hl.1 rfl (Nat.le_of_ble_eq_true rfl) ⟨Nat.le_of_ble_eq_true rfl, Nat.le_of_ble_eq_true rfl⟩ dX12_steer_15 (fun r9 σ9 τ9 H locs hp hw => ?_)
    obtain ⟨rfl, rfl, rfl⟩ := hp
    refine lv_if_eq (tgt := 33) hx hb dX12_steer_18 (by decide) (fun c_5 => ?_) (fun c_5 => ?_)
    · rw [if_pos c_5] at h
      refine lv_iconst (v := (-1)) hx hb dX12_steer_33 (by decide) ?_
      obtain ⟨rfl, rfl, rfl⟩ := sm_inj h
      exact gx_ri (post := gq_p (-1) σ_4 τ_4) (v := (-1)) S hr hlk hw rfl dX12_steer_34 ⟨rfl, rfl, rfl⟩
    · rw [if_neg c_5] at h
      refine lv_aload_n hx hb dX12_steer_21 rfl (lv_at hl 0 rfl) ?_
      refine lv_iconst (v := 1) hx hb dX12_steer_22 (by decide) ?_
      refine lv_iload_n hx hb dX12_steer_23 rfl (lv_at hl 1 rfl) ?_
      refine lv_ishl hx hb dX12_steer_24 ?_
      refine lv_iload_n hx hb dX12_steer_25 rfl (lv_at hl 2 rfl) ?_
      refine lv_iload_n hx hb dX12_steer_26 rfl (lv_at hl 1 rfl) ?_
      obtain ⟨r_6, σ_6, τ_6, q_6, h⟩ := bd_some h
      refine gx_cVi (As := [.int (1 <<< (x1 &&& 31)), .int x2, .int x1]) (rest := []) S hK gx_ok hw (c_X12_saves l (E := E) N σ_4 τ_4 (1 <<< (x1 &&& 31)) x2 x1 q_6) cw_X12_422 t_199 cl_13 ⟨Nat.le_of_ble_eq_true rfl, Nat.le_of_ble_eq_true rfl⟩ rfl hl.1 rfl (Nat.le_of_ble_eq_true rfl) ⟨Nat.le_of_ble_eq_true rfl, Nat.le_of_ble_eq_true rfl⟩ dX12_steer_27 (fun r9 σ9 τ9 H locs hp hw => ?_)
      obtain ⟨rfl, rfl, rfl⟩ := hp
      refine lv_goto (tgt := 34) hx hb dX12_steer_30 (by decide) ?_
      obtain ⟨rfl, rfl, rfl⟩ := sm_inj h
      exact gx_ri (post := gq_p r_6 σ_6 τ_6) (v := r_6) S hr hlk hw rfl dX12_steer_34 ⟨rfl, rfl, rfl⟩
set_option maxHeartbeats 4000000 in
set_option maxRecDepth 100000 in
theorem c_X12_steer (l : Launch) {E : gE} (N : Nat) (σ : gI) (τ : gJ) (x1 : Int32) (x2 : Int32) {r : Int32} {σ1 : gI} {τ1 : gJ} (h : B_X12_steer_0 N σ τ x1 x2 = some (r, σ1, τ1)) : gx_Mi l yX12_steer cX12_steer 3 (some .int) 8 gx_tb E σ τ [.ref (E.2.2 + 199), .int x1, .int x2] (gq_p r σ1 τ1) := by
  refine gx_bi (by decide +kernel) (Nat.le_of_ble_eq_true rfl) ?_
  intro P9 e9 s m9 below meth C9 S hr hlk hK hw ls hl
  have hl : lv_has ls 3 [(0, .ref (E.2.2 + 199)), (1, .int x1), (2, .int x2)] := hl
  exact b_X12_steer_0 l S hr hlk hK N σ τ x1 x2 h hw hl
/-! X12_undo -/
def C_X12_undo_26 (N : Nat) (rec_26 : gI → gJ → Int32 → Option (Int32 × gI × gJ)) (σ : gI) (τ : gJ) (x1 : Int32) : Option (Int32 × gI × gJ) := if 45 ≤ x1 then (some (σ 199 36, σ, τ)) else (ck ((45 * (σ 199 36)) + x1) 720 fun j_2 => ck x1 45 fun j_3 => nm (up2 σ 206 j_3 (σ 219 j_2)) fun σ_4 => nm (x1 + 1) fun v_5 => rec_26 σ_4 τ v_5)
def H_X12_undo_26 (N : Nat) : Nat → gI → gJ → Int32 → Option (Int32 × gI × gJ) := itn (fun rec_26 => C_X12_undo_26 N rec_26) (fun _ _ _ => none)
def B_X12_undo_0 (N : Nat) (σ : gI) (τ : gJ) : Option (Int32 × gI × gJ) := nm (up2 σ 199 0 0) fun σ_1 => if σ_1 199 36 = 0 then (some ((-1), σ_1, τ)) else (nm (up2 σ_1 199 36 ((σ_1 199 36) - 1)) fun σ_3 => H_X12_undo_26 N N σ_3 τ 0)
set_option maxHeartbeats 4000000 in
set_option maxRecDepth 100000 in
theorem k_X12_undo_26 (l : Launch) (S : CallFix P9 m9 C9 cX12_undo 2 s av.toArray gx_G RX12) (hr : meth.sig.returnType = (some .int)) (hlk : meth.locks = false) (hK : gx_K E s) (N : Nat) (rec_26 : gI → gJ → Int32 → Option (Int32 × gI × gJ)) (hrec_26 : ∀ (σ : gI) (τ : gJ) (x1 : Int32) (r : Int32) (σ1 : gI) (τ1 : gJ) (H : Heap) (locs : List Loc) (ls : Array Slot), rec_26 σ τ x1 = some (r, σ1, τ1) → gx_W gx_tb gx_tb.length E s σ τ H locs → lv_has ls 2 [(0, .ref (E.2.2 + 199)), (1, .int x1)] → W P9 l e9 (gx_rm 0) s m9 av.toArray below meth C9 H locs 0 0 (gq_Qi below av s E r σ1 τ1) (F0 m9 26 ls [])) (σ : gI) (τ : gJ) (x1 : Int32) {r : Int32} {σ1 : gI} {τ1 : gJ} (h : C_X12_undo_26 N rec_26 σ τ x1 = some (r, σ1, τ1)) {H : Heap} {locs : List Loc} {ls : Array Slot} (hw : gx_W gx_tb gx_tb.length E s σ τ H locs) (hl : lv_has ls 2 [(0, .ref (E.2.2 + 199)), (1, .int x1)]) : W P9 l e9 (gx_rm 0) s m9 av.toArray below meth C9 H locs 0 0 (gq_Qi below av s E r σ1 τ1) (F0 m9 26 ls []) := by
  have hx := S.1
  have hb := S.2.1
  unfold C_X12_undo_26 at h
  refine lv_iload_n hx hb dX12_undo_26 rfl (lv_at hl 1 rfl) ?_
  refine lv_bipush (v := 45) hx hb dX12_undo_27 (by decide) ?_
  refine lv_icmp_ge (tgt := 58) hx hb dX12_undo_29 (by decide) (fun c_1 => ?_) (fun c_1 => ?_)
  · rw [if_pos c_1] at h
    refine lv_aload_n hx hb dX12_undo_58 rfl (lv_at hl 0 rfl) ?_
    refine gx_get S hK hw t_199 cl_13 36 (by decide) rfl mw_1450 rfl dX12_undo_59 ?_
    obtain ⟨rfl, rfl, rfl⟩ := sm_inj h
    exact gx_ri (post := gq_p (σ 199 36) σ τ) (v := σ 199 36) S hr hlk hw rfl dX12_undo_62 ⟨rfl, rfl, rfl⟩
  · rw [if_neg c_1] at h
    refine lv_aload_n hx hb dX12_undo_32 rfl (lv_at hl 0 rfl) ?_
    refine gx_getr (j := 206) S hK hw t_199 cl_13 10 (by decide) rfl mw_1424 rfl dX12_undo_33 ?_
    refine lv_iload_n hx hb dX12_undo_36 rfl (lv_at hl 1 rfl) ?_
    refine lv_aload_n hx hb dX12_undo_37 rfl (lv_at hl 0 rfl) ?_
    refine gx_getr (j := 219) S hK hw t_199 cl_13 37 (by decide) rfl mw_1451 rfl dX12_undo_38 ?_
    refine lv_bipush (v := 45) hx hb dX12_undo_41 (by decide) ?_
    refine lv_aload_n hx hb dX12_undo_43 rfl (lv_at hl 0 rfl) ?_
    refine gx_get S hK hw t_199 cl_13 36 (by decide) rfl mw_1450 rfl dX12_undo_44 ?_
    refine lv_imul hx hb dX12_undo_47 ?_
    refine lv_iload_n hx hb dX12_undo_48 rfl (lv_at hl 1 rfl) ?_
    refine lv_iadd hx hb dX12_undo_49 ?_
    obtain ⟨j_2, hj_2, hi_2, h⟩ := ck_some h
    refine gx_iald S hK hw t_219 j_2 hj_2 hi_2 dX12_undo_50 ?_
    obtain ⟨j_3, hj_3, hi_3, h⟩ := ck_some h
    refine gx_iast S hK gx_ok hw t_206 j_3 hj_3 hi_3 dX12_undo_51 (fun H locs hw => ?_)
    obtain ⟨σ_4, e_4, h⟩ := nm_some h
    rw [← e_4] at hw
    refine lv_iinc (v := x1 + 1) (lv' := [(1, .int (x1 + 1)), (0, .ref (E.2.2 + 199))]) hx hb dX12_undo_52 hl (k := 1) rfl rfl (by decide) rfl (fun ls hl => ?_)
    obtain ⟨v_5, e_5, h⟩ := nm_some h
    have hl : lv_has ls 2 [(1, .int v_5), (0, .ref (E.2.2 + 199))] := by rw [e_5]; exact hl
    refine lv_goto (tgt := 26) hx hb dX12_undo_55 (by decide) ?_
    exact hrec_26 σ_4 τ v_5 _ _ _ _ _ _ h hw (lv_sub hl [1, 0] rfl)
set_option maxHeartbeats 4000000 in
set_option maxRecDepth 100000 in
theorem h_X12_undo_26 (l : Launch) (S : CallFix P9 m9 C9 cX12_undo 2 s av.toArray gx_G RX12) (hr : meth.sig.returnType = (some .int)) (hlk : meth.locks = false) (hK : gx_K E s) (N : Nat) : ∀ (n : Nat) (σ : gI) (τ : gJ) (x1 : Int32) (r : Int32) (σ1 : gI) (τ1 : gJ), H_X12_undo_26 N n σ τ x1 = some (r, σ1, τ1) → ∀ (H : Heap) (locs : List Loc) (ls : Array Slot), gx_W gx_tb gx_tb.length E s σ τ H locs → lv_has ls 2 [(0, .ref (E.2.2 + 199)), (1, .int x1)] → W P9 l e9 (gx_rm 0) s m9 av.toArray below meth C9 H locs 0 0 (gq_Qi below av s E r σ1 τ1) (F0 m9 26 ls []) := by
  intro n
  induction n with
  | zero => intro σ τ x1 r σ1 τ1 h; cases h
  | succ n ih =>
    intro σ τ x1 r σ1 τ1 h H locs ls hw hl
    exact k_X12_undo_26 l S hr hlk hK N (H_X12_undo_26 N n) (fun σ τ x1 r σ1 τ1 H locs ls h hw hl => ih σ τ x1 r σ1 τ1 h H locs ls hw hl) σ τ x1 h hw hl
set_option maxHeartbeats 4000000 in
set_option maxRecDepth 100000 in
theorem b_X12_undo_0 (l : Launch) (S : CallFix P9 m9 C9 cX12_undo 2 s av.toArray gx_G RX12) (hr : meth.sig.returnType = (some .int)) (hlk : meth.locks = false) (hK : gx_K E s) (N : Nat) (σ : gI) (τ : gJ) {r : Int32} {σ1 : gI} {τ1 : gJ} (h : B_X12_undo_0 N σ τ = some (r, σ1, τ1)) {H : Heap} {locs : List Loc} {ls : Array Slot} (hw : gx_W gx_tb gx_tb.length E s σ τ H locs) (hl : lv_has ls 2 [(0, .ref (E.2.2 + 199))]) : W P9 l e9 (gx_rm 0) s m9 av.toArray below meth C9 H locs 0 0 (gq_Qi below av s E r σ1 τ1) (F0 m9 0 ls []) := by
  have hx := S.1
  have hb := S.2.1
  unfold B_X12_undo_0 at h
  refine lv_aload_n hx hb dX12_undo_0 rfl (lv_at hl 0 rfl) ?_
  refine lv_iconst (v := 0) hx hb dX12_undo_1 (by decide) ?_
  refine gx_put S hK gx_ok hw t_199 cl_13 0 (by decide) rfl mw_1414 rfl rfl (ty := .int) (v := 0) (by decide +kernel) rfl rfl dX12_undo_2 (fun H locs hw => ?_)
  obtain ⟨σ_1, e_1, h⟩ := nm_some h
  rw [← e_1] at hw
  refine lv_aload_n hx hb dX12_undo_5 rfl (lv_at hl 0 rfl) ?_
  refine gx_get S hK hw t_199 cl_13 36 (by decide) rfl mw_1450 rfl dX12_undo_6 ?_
  refine lv_if_ne (tgt := 14) hx hb dX12_undo_9 (by decide) (fun c_2 => ?_) (fun c_2 => ?_)
  · rw [if_neg c_2] at h
    refine lv_aload_n hx hb dX12_undo_14 rfl (lv_at hl 0 rfl) ?_
    refine lv_dup hx hb dX12_undo_15 rfl ?_
    refine gx_get S hK hw t_199 cl_13 36 (by decide) rfl mw_1450 rfl dX12_undo_16 ?_
    refine lv_iconst (v := 1) hx hb dX12_undo_19 (by decide) ?_
    refine lv_isub hx hb dX12_undo_20 ?_
    refine gx_put S hK gx_ok hw t_199 cl_13 36 (by decide) rfl mw_1450 rfl rfl (ty := .int) (v := (σ_1 199 36) - 1) (by decide +kernel) rfl rfl dX12_undo_21 (fun H locs hw => ?_)
    obtain ⟨σ_3, e_3, h⟩ := nm_some h
    rw [← e_3] at hw
    refine lv_iconst (v := 0) hx hb dX12_undo_24 (by decide) ?_
    refine lv_istore_n (lv' := [(1, .int 0), (0, .ref (E.2.2 + 199))]) hx hb dX12_undo_25 rfl hl (by decide) rfl (fun ls hl => ?_)
    exact h_X12_undo_26 l S hr hlk hK N N σ_3 τ 0 _ _ _ h _ _ _ hw (lv_sub hl [1, 0] rfl)
  · rw [if_pos c_2] at h
    refine lv_iconst (v := (-1)) hx hb dX12_undo_12 (by decide) ?_
    obtain ⟨rfl, rfl, rfl⟩ := sm_inj h
    exact gx_ri (post := gq_p (-1) σ_1 τ) (v := (-1)) S hr hlk hw rfl dX12_undo_13 ⟨rfl, rfl, rfl⟩
set_option maxHeartbeats 4000000 in
set_option maxRecDepth 100000 in
theorem c_X12_undo (l : Launch) {E : gE} (N : Nat) (σ : gI) (τ : gJ) {r : Int32} {σ1 : gI} {τ1 : gJ} (h : B_X12_undo_0 N σ τ = some (r, σ1, τ1)) : gx_Mi l yX12_undo cX12_undo 2 (some .int) 0 gx_tb E σ τ [.ref (E.2.2 + 199)] (gq_p r σ1 τ1) := by
  refine gx_bi (by decide +kernel) (Nat.le_of_ble_eq_true rfl) ?_
  intro P9 e9 s m9 below meth C9 S hr hlk hK hw ls hl
  have hl : lv_has ls 2 [(0, .ref (E.2.2 + 199))] := hl
  exact b_X12_undo_0 l S hr hlk hK N σ τ h hw hl
/-! X12_waits -/
def B_X12_waits_75 (N : Nat) (rec_35 : gI → gJ → Int32 → Int32 → Int32 → Int32 → Int32 → Int32 → Int32 → Int32 → Option (Int32 × gI × gJ)) (σ : gI) (τ : gJ) (x1 : Int32) (x2 : Int32) (x3 : Int32) (x4 : Int32) (x5 : Int32) (x6 : Int32) (x7 : Int32) (x8 : Int32) (y0 : Int32) : Option (Int32 × gI × gJ) := nm (x5 ||| (1 <<< (x8 &&& 31))) fun v_1 => if x6 < 0 then (if x7 < 0 then (nm (x8 + 1) fun v_4 => rec_35 σ τ x1 x2 x3 x4 v_1 x8 y0 v_4) else (if x7 ≤ y0 then (nm (x8 + 1) fun v_6 => rec_35 σ τ x1 x2 x3 x4 v_1 x8 x7 v_6) else (nm (x8 + 1) fun v_7 => rec_35 σ τ x1 x2 x3 x4 v_1 x8 y0 v_7))) else (if x7 ≤ y0 then (if x7 < 0 then (nm (x8 + 1) fun v_10 => rec_35 σ τ x1 x2 x3 x4 v_1 x6 y0 v_10) else (if x7 ≤ y0 then (nm (x8 + 1) fun v_12 => rec_35 σ τ x1 x2 x3 x4 v_1 x6 x7 v_12) else (nm (x8 + 1) fun v_13 => rec_35 σ τ x1 x2 x3 x4 v_1 x6 y0 v_13))) else (if x7 < 0 then (nm (x8 + 1) fun v_15 => rec_35 σ τ x1 x2 x3 x4 v_1 x8 y0 v_15) else (if x7 ≤ y0 then (nm (x8 + 1) fun v_17 => rec_35 σ τ x1 x2 x3 x4 v_1 x8 x7 v_17) else (nm (x8 + 1) fun v_18 => rec_35 σ τ x1 x2 x3 x4 v_1 x8 y0 v_18))))
def C_X12_waits_35 (N : Nat) (rec_35 : gI → gJ → Int32 → Int32 → Int32 → Int32 → Int32 → Int32 → Int32 → Int32 → Option (Int32 × gI × gJ)) (σ : gI) (τ : gJ) (x1 : Int32) (x2 : Int32) (x3 : Int32) (x4 : Int32) (x5 : Int32) (x6 : Int32) (x7 : Int32) (x8 : Int32) : Option (Int32 × gI × gJ) := if 30 ≤ x8 then (nm (up2 σ 199 1 0) fun σ_2 => bd (B_X12_enters_0 N σ_2 τ x6.toInt64) fun _ σ_3 τ_3 => bd (B_X12_enters_0 N σ_3 τ_3 x7.toInt64) fun _ σ_4 τ_4 => some (x5, σ_4, τ_4)) else (bd (B_X12_sails_0 N σ τ x1 x2 x3 x8 x4) fun r_5 σ_5 τ_5 => if r_5 < 0 then (nm (x8 + 1) fun v_7 => rec_35 σ_5 τ_5 x1 x2 x3 x4 x5 x6 x7 v_7) else (if x1 = x4 then (B_X12_waits_75 N rec_35 σ_5 τ_5 x1 x2 x3 x4 x5 x6 x7 x8 0) else (B_X12_waits_75 N rec_35 σ_5 τ_5 x1 x2 x3 x4 x5 x6 x7 x8 (r_5 - x8))))
def H_X12_waits_35 (N : Nat) : Nat → gI → gJ → Int32 → Int32 → Int32 → Int32 → Int32 → Int32 → Int32 → Int32 → Option (Int32 × gI × gJ) := itn (fun rec_35 => C_X12_waits_35 N rec_35) (fun _ _ _ _ _ _ _ _ _ _ => none)
def B_X12_waits_0 (N : Nat) (σ : gI) (τ : gJ) (x1 : Int32) (x2 : Int32) (x3 : Int32) (x4 : Int32) : Option (Int32 × gI × gJ) := nm (up2 σ 199 0 0) fun σ_1 => bd (B_X12_canSail_0 N σ_1 τ x1 x2 x3 x4) fun r_2 σ_2 τ_2 => if r_2 = 0 then (some ((-1), σ_2, τ_2)) else (bd (B_X12_thinksNow_0 N σ_2 τ_2) fun _ σ_4 τ_4 => H_X12_waits_35 N N σ_4 τ_4 x1 x2 x3 x4 0 (-1) (-1) 0)
set_option maxHeartbeats 4000000 in
set_option maxRecDepth 100000 in
theorem b_X12_waits_75 (l : Launch) (S : CallFix P9 m9 C9 cX12_waits 11 s av.toArray gx_G RX12) (hr : meth.sig.returnType = (some .int)) (hlk : meth.locks = false) (hK : gx_K E s) (N : Nat) (rec_35 : gI → gJ → Int32 → Int32 → Int32 → Int32 → Int32 → Int32 → Int32 → Int32 → Option (Int32 × gI × gJ)) (hrec_35 : ∀ (σ : gI) (τ : gJ) (x1 : Int32) (x2 : Int32) (x3 : Int32) (x4 : Int32) (x5 : Int32) (x6 : Int32) (x7 : Int32) (x8 : Int32) (r : Int32) (σ1 : gI) (τ1 : gJ) (H : Heap) (locs : List Loc) (ls : Array Slot), rec_35 σ τ x1 x2 x3 x4 x5 x6 x7 x8 = some (r, σ1, τ1) → gx_W gx_tb gx_tb.length E s σ τ H locs → lv_has ls 11 [(0, .ref (E.2.2 + 199)), (1, .int x1), (2, .int x2), (3, .int x3), (4, .int x4), (5, .int x5), (6, .int x6), (7, .int x7), (8, .int x8)] → W P9 l e9 (gx_rm 9) s m9 av.toArray below meth C9 H locs 0 0 (gq_Qi below av s E r σ1 τ1) (F0 m9 35 ls [])) (σ : gI) (τ : gJ) (x1 : Int32) (x2 : Int32) (x3 : Int32) (x4 : Int32) (x5 : Int32) (x6 : Int32) (x7 : Int32) (x8 : Int32) (y0 : Int32) {r : Int32} {σ1 : gI} {τ1 : gJ} (h : B_X12_waits_75 N rec_35 σ τ x1 x2 x3 x4 x5 x6 x7 x8 y0 = some (r, σ1, τ1)) {H : Heap} {locs : List Loc} {ls : Array Slot} (hw : gx_W gx_tb gx_tb.length E s σ τ H locs) (hl : lv_has ls 11 [(0, .ref (E.2.2 + 199)), (1, .int x1), (2, .int x2), (3, .int x3), (4, .int x4), (5, .int x5), (6, .int x6), (7, .int x7), (8, .int x8)]) : W P9 l e9 (gx_rm 9) s m9 av.toArray below meth C9 H locs 0 0 (gq_Qi below av s E r σ1 τ1) (F0 m9 75 ls [.int y0]) := by
  have hx := S.1
  have hb := S.2.1
  unfold B_X12_waits_75 at h
  refine lv_istore (lv' := [(10, .int y0), (0, .ref (E.2.2 + 199)), (1, .int x1), (2, .int x2), (3, .int x3), (4, .int x4), (5, .int x5), (6, .int x6), (7, .int x7), (8, .int x8)]) hx hb dX12_waits_75 hl (by decide) rfl (fun ls hl => ?_)
  refine lv_iload hx hb dX12_waits_77 (lv_at hl 6 rfl) ?_
  refine lv_iconst (v := 1) hx hb dX12_waits_79 (by decide) ?_
  refine lv_iload hx hb dX12_waits_80 (lv_at hl 9 rfl) ?_
  refine lv_ishl hx hb dX12_waits_82 ?_
  refine lv_ior hx hb dX12_waits_83 ?_
  refine lv_istore (lv' := [(5, .int (x5 ||| (1 <<< (x8 &&& 31)))), (10, .int y0), (0, .ref (E.2.2 + 199)), (1, .int x1), (2, .int x2), (3, .int x3), (4, .int x4), (6, .int x6), (7, .int x7), (8, .int x8)]) hx hb dX12_waits_84 hl (by decide) rfl (fun ls hl => ?_)
  obtain ⟨v_1, e_1, h⟩ := nm_some h
  have hl : lv_has ls 11 [(5, .int v_1), (10, .int y0), (0, .ref (E.2.2 + 199)), (1, .int x1), (2, .int x2), (3, .int x3), (4, .int x4), (6, .int x6), (7, .int x7), (8, .int x8)] := by rw [e_1]; exact hl
  refine lv_iload hx hb dX12_waits_86 (lv_at hl 7 rfl) ?_
  refine lv_if_lt (tgt := 98) hx hb dX12_waits_88 (by decide) (fun c_2 => ?_) (fun c_2 => ?_)
  · rw [if_pos c_2] at h
    refine lv_iload hx hb dX12_waits_98 (lv_at hl 9 rfl) ?_
    refine lv_goto (tgt := 105) hx hb dX12_waits_100 (by decide) ?_
    refine lv_istore (lv' := [(6, .int x8), (5, .int v_1), (10, .int y0), (0, .ref (E.2.2 + 199)), (1, .int x1), (2, .int x2), (3, .int x3), (4, .int x4), (7, .int x7), (8, .int x8)]) hx hb dX12_waits_105 hl (by decide) rfl (fun ls hl => ?_)
    refine lv_iload hx hb dX12_waits_107 (lv_at hl 8 rfl) ?_
    refine lv_if_lt (tgt := 119) hx hb dX12_waits_109 (by decide) (fun c_3 => ?_) (fun c_3 => ?_)
    · rw [if_pos c_3] at h
      refine lv_iload hx hb dX12_waits_119 (lv_at hl 2 rfl) ?_
      refine lv_goto (tgt := 126) hx hb dX12_waits_121 (by decide) ?_
      refine lv_istore (lv' := [(7, .int y0), (6, .int x8), (5, .int v_1), (10, .int y0), (0, .ref (E.2.2 + 199)), (1, .int x1), (2, .int x2), (3, .int x3), (4, .int x4), (8, .int x8)]) hx hb dX12_waits_126 hl (by decide) rfl (fun ls hl => ?_)
      refine lv_iinc (v := x8 + 1) (lv' := [(8, .int (x8 + 1)), (7, .int y0), (6, .int x8), (5, .int v_1), (10, .int y0), (0, .ref (E.2.2 + 199)), (1, .int x1), (2, .int x2), (3, .int x3), (4, .int x4)]) hx hb dX12_waits_128 hl (k := 9) rfl rfl (by decide) rfl (fun ls hl => ?_)
      obtain ⟨v_4, e_4, h⟩ := nm_some h
      have hl : lv_has ls 11 [(8, .int v_4), (7, .int y0), (6, .int x8), (5, .int v_1), (10, .int y0), (0, .ref (E.2.2 + 199)), (1, .int x1), (2, .int x2), (3, .int x3), (4, .int x4)] := by rw [e_4]; exact hl
      refine lv_goto (tgt := 35) hx hb dX12_waits_131 (by decide) ?_
      exact hrec_35 σ τ x1 x2 x3 x4 v_1 x8 y0 v_4 _ _ _ _ _ _ h hw (lv_sub hl [5, 6, 7, 8, 9, 3, 2, 1, 0] rfl)
    · rw [if_neg c_3] at h
      refine lv_iload hx hb dX12_waits_112 (lv_at hl 2 rfl) ?_
      refine lv_iload hx hb dX12_waits_114 (lv_at hl 8 rfl) ?_
      refine lv_icmp_ge (tgt := 124) hx hb dX12_waits_116 (by decide) (fun c_5 => ?_) (fun c_5 => ?_)
      · rw [if_pos c_5] at h
        refine lv_iload hx hb dX12_waits_124 (lv_at hl 8 rfl) ?_
        refine lv_istore (lv' := [(7, .int x7), (6, .int x8), (5, .int v_1), (10, .int y0), (0, .ref (E.2.2 + 199)), (1, .int x1), (2, .int x2), (3, .int x3), (4, .int x4), (8, .int x8)]) hx hb dX12_waits_126 hl (by decide) rfl (fun ls hl => ?_)
        refine lv_iinc (v := x8 + 1) (lv' := [(8, .int (x8 + 1)), (7, .int x7), (6, .int x8), (5, .int v_1), (10, .int y0), (0, .ref (E.2.2 + 199)), (1, .int x1), (2, .int x2), (3, .int x3), (4, .int x4)]) hx hb dX12_waits_128 hl (k := 9) rfl rfl (by decide) rfl (fun ls hl => ?_)
        obtain ⟨v_6, e_6, h⟩ := nm_some h
        have hl : lv_has ls 11 [(8, .int v_6), (7, .int x7), (6, .int x8), (5, .int v_1), (10, .int y0), (0, .ref (E.2.2 + 199)), (1, .int x1), (2, .int x2), (3, .int x3), (4, .int x4)] := by rw [e_6]; exact hl
        refine lv_goto (tgt := 35) hx hb dX12_waits_131 (by decide) ?_
        exact hrec_35 σ τ x1 x2 x3 x4 v_1 x8 x7 v_6 _ _ _ _ _ _ h hw (lv_sub hl [5, 6, 7, 8, 9, 3, 2, 1, 0] rfl)
      · rw [if_neg c_5] at h
        refine lv_iload hx hb dX12_waits_119 (lv_at hl 2 rfl) ?_
        refine lv_goto (tgt := 126) hx hb dX12_waits_121 (by decide) ?_
        refine lv_istore (lv' := [(7, .int y0), (6, .int x8), (5, .int v_1), (10, .int y0), (0, .ref (E.2.2 + 199)), (1, .int x1), (2, .int x2), (3, .int x3), (4, .int x4), (8, .int x8)]) hx hb dX12_waits_126 hl (by decide) rfl (fun ls hl => ?_)
        refine lv_iinc (v := x8 + 1) (lv' := [(8, .int (x8 + 1)), (7, .int y0), (6, .int x8), (5, .int v_1), (10, .int y0), (0, .ref (E.2.2 + 199)), (1, .int x1), (2, .int x2), (3, .int x3), (4, .int x4)]) hx hb dX12_waits_128 hl (k := 9) rfl rfl (by decide) rfl (fun ls hl => ?_)
        obtain ⟨v_7, e_7, h⟩ := nm_some h
        have hl : lv_has ls 11 [(8, .int v_7), (7, .int y0), (6, .int x8), (5, .int v_1), (10, .int y0), (0, .ref (E.2.2 + 199)), (1, .int x1), (2, .int x2), (3, .int x3), (4, .int x4)] := by rw [e_7]; exact hl
        refine lv_goto (tgt := 35) hx hb dX12_waits_131 (by decide) ?_
        exact hrec_35 σ τ x1 x2 x3 x4 v_1 x8 y0 v_7 _ _ _ _ _ _ h hw (lv_sub hl [5, 6, 7, 8, 9, 3, 2, 1, 0] rfl)
  · rw [if_neg c_2] at h
    refine lv_iload hx hb dX12_waits_91 (lv_at hl 1 rfl) ?_
    refine lv_iload hx hb dX12_waits_93 (lv_at hl 8 rfl) ?_
    refine lv_icmp_ge (tgt := 103) hx hb dX12_waits_95 (by decide) (fun c_8 => ?_) (fun c_8 => ?_)
    · rw [if_pos c_8] at h
      refine lv_iload hx hb dX12_waits_103 (lv_at hl 7 rfl) ?_
      refine lv_istore (lv' := [(6, .int x6), (5, .int v_1), (10, .int y0), (0, .ref (E.2.2 + 199)), (1, .int x1), (2, .int x2), (3, .int x3), (4, .int x4), (7, .int x7), (8, .int x8)]) hx hb dX12_waits_105 hl (by decide) rfl (fun ls hl => ?_)
      refine lv_iload hx hb dX12_waits_107 (lv_at hl 8 rfl) ?_
      refine lv_if_lt (tgt := 119) hx hb dX12_waits_109 (by decide) (fun c_9 => ?_) (fun c_9 => ?_)
      · rw [if_pos c_9] at h
        refine lv_iload hx hb dX12_waits_119 (lv_at hl 2 rfl) ?_
        refine lv_goto (tgt := 126) hx hb dX12_waits_121 (by decide) ?_
        refine lv_istore (lv' := [(7, .int y0), (6, .int x6), (5, .int v_1), (10, .int y0), (0, .ref (E.2.2 + 199)), (1, .int x1), (2, .int x2), (3, .int x3), (4, .int x4), (8, .int x8)]) hx hb dX12_waits_126 hl (by decide) rfl (fun ls hl => ?_)
        refine lv_iinc (v := x8 + 1) (lv' := [(8, .int (x8 + 1)), (7, .int y0), (6, .int x6), (5, .int v_1), (10, .int y0), (0, .ref (E.2.2 + 199)), (1, .int x1), (2, .int x2), (3, .int x3), (4, .int x4)]) hx hb dX12_waits_128 hl (k := 9) rfl rfl (by decide) rfl (fun ls hl => ?_)
        obtain ⟨v_10, e_10, h⟩ := nm_some h
        have hl : lv_has ls 11 [(8, .int v_10), (7, .int y0), (6, .int x6), (5, .int v_1), (10, .int y0), (0, .ref (E.2.2 + 199)), (1, .int x1), (2, .int x2), (3, .int x3), (4, .int x4)] := by rw [e_10]; exact hl
        refine lv_goto (tgt := 35) hx hb dX12_waits_131 (by decide) ?_
        exact hrec_35 σ τ x1 x2 x3 x4 v_1 x6 y0 v_10 _ _ _ _ _ _ h hw (lv_sub hl [5, 6, 7, 8, 9, 3, 2, 1, 0] rfl)
      · rw [if_neg c_9] at h
        refine lv_iload hx hb dX12_waits_112 (lv_at hl 2 rfl) ?_
        refine lv_iload hx hb dX12_waits_114 (lv_at hl 8 rfl) ?_
        refine lv_icmp_ge (tgt := 124) hx hb dX12_waits_116 (by decide) (fun c_11 => ?_) (fun c_11 => ?_)
        · rw [if_pos c_11] at h
          refine lv_iload hx hb dX12_waits_124 (lv_at hl 8 rfl) ?_
          refine lv_istore (lv' := [(7, .int x7), (6, .int x6), (5, .int v_1), (10, .int y0), (0, .ref (E.2.2 + 199)), (1, .int x1), (2, .int x2), (3, .int x3), (4, .int x4), (8, .int x8)]) hx hb dX12_waits_126 hl (by decide) rfl (fun ls hl => ?_)
          refine lv_iinc (v := x8 + 1) (lv' := [(8, .int (x8 + 1)), (7, .int x7), (6, .int x6), (5, .int v_1), (10, .int y0), (0, .ref (E.2.2 + 199)), (1, .int x1), (2, .int x2), (3, .int x3), (4, .int x4)]) hx hb dX12_waits_128 hl (k := 9) rfl rfl (by decide) rfl (fun ls hl => ?_)
          obtain ⟨v_12, e_12, h⟩ := nm_some h
          have hl : lv_has ls 11 [(8, .int v_12), (7, .int x7), (6, .int x6), (5, .int v_1), (10, .int y0), (0, .ref (E.2.2 + 199)), (1, .int x1), (2, .int x2), (3, .int x3), (4, .int x4)] := by rw [e_12]; exact hl
          refine lv_goto (tgt := 35) hx hb dX12_waits_131 (by decide) ?_
          exact hrec_35 σ τ x1 x2 x3 x4 v_1 x6 x7 v_12 _ _ _ _ _ _ h hw (lv_sub hl [5, 6, 7, 8, 9, 3, 2, 1, 0] rfl)
        · rw [if_neg c_11] at h
          refine lv_iload hx hb dX12_waits_119 (lv_at hl 2 rfl) ?_
          refine lv_goto (tgt := 126) hx hb dX12_waits_121 (by decide) ?_
          refine lv_istore (lv' := [(7, .int y0), (6, .int x6), (5, .int v_1), (10, .int y0), (0, .ref (E.2.2 + 199)), (1, .int x1), (2, .int x2), (3, .int x3), (4, .int x4), (8, .int x8)]) hx hb dX12_waits_126 hl (by decide) rfl (fun ls hl => ?_)
          refine lv_iinc (v := x8 + 1) (lv' := [(8, .int (x8 + 1)), (7, .int y0), (6, .int x6), (5, .int v_1), (10, .int y0), (0, .ref (E.2.2 + 199)), (1, .int x1), (2, .int x2), (3, .int x3), (4, .int x4)]) hx hb dX12_waits_128 hl (k := 9) rfl rfl (by decide) rfl (fun ls hl => ?_)
          obtain ⟨v_13, e_13, h⟩ := nm_some h
          have hl : lv_has ls 11 [(8, .int v_13), (7, .int y0), (6, .int x6), (5, .int v_1), (10, .int y0), (0, .ref (E.2.2 + 199)), (1, .int x1), (2, .int x2), (3, .int x3), (4, .int x4)] := by rw [e_13]; exact hl
          refine lv_goto (tgt := 35) hx hb dX12_waits_131 (by decide) ?_
          exact hrec_35 σ τ x1 x2 x3 x4 v_1 x6 y0 v_13 _ _ _ _ _ _ h hw (lv_sub hl [5, 6, 7, 8, 9, 3, 2, 1, 0] rfl)
    · rw [if_neg c_8] at h
      refine lv_iload hx hb dX12_waits_98 (lv_at hl 9 rfl) ?_
      refine lv_goto (tgt := 105) hx hb dX12_waits_100 (by decide) ?_
      refine lv_istore (lv' := [(6, .int x8), (5, .int v_1), (10, .int y0), (0, .ref (E.2.2 + 199)), (1, .int x1), (2, .int x2), (3, .int x3), (4, .int x4), (7, .int x7), (8, .int x8)]) hx hb dX12_waits_105 hl (by decide) rfl (fun ls hl => ?_)
      refine lv_iload hx hb dX12_waits_107 (lv_at hl 8 rfl) ?_
      refine lv_if_lt (tgt := 119) hx hb dX12_waits_109 (by decide) (fun c_14 => ?_) (fun c_14 => ?_)
      · rw [if_pos c_14] at h
        refine lv_iload hx hb dX12_waits_119 (lv_at hl 2 rfl) ?_
        refine lv_goto (tgt := 126) hx hb dX12_waits_121 (by decide) ?_
        refine lv_istore (lv' := [(7, .int y0), (6, .int x8), (5, .int v_1), (10, .int y0), (0, .ref (E.2.2 + 199)), (1, .int x1), (2, .int x2), (3, .int x3), (4, .int x4), (8, .int x8)]) hx hb dX12_waits_126 hl (by decide) rfl (fun ls hl => ?_)
        refine lv_iinc (v := x8 + 1) (lv' := [(8, .int (x8 + 1)), (7, .int y0), (6, .int x8), (5, .int v_1), (10, .int y0), (0, .ref (E.2.2 + 199)), (1, .int x1), (2, .int x2), (3, .int x3), (4, .int x4)]) hx hb dX12_waits_128 hl (k := 9) rfl rfl (by decide) rfl (fun ls hl => ?_)
        obtain ⟨v_15, e_15, h⟩ := nm_some h
        have hl : lv_has ls 11 [(8, .int v_15), (7, .int y0), (6, .int x8), (5, .int v_1), (10, .int y0), (0, .ref (E.2.2 + 199)), (1, .int x1), (2, .int x2), (3, .int x3), (4, .int x4)] := by rw [e_15]; exact hl
        refine lv_goto (tgt := 35) hx hb dX12_waits_131 (by decide) ?_
        exact hrec_35 σ τ x1 x2 x3 x4 v_1 x8 y0 v_15 _ _ _ _ _ _ h hw (lv_sub hl [5, 6, 7, 8, 9, 3, 2, 1, 0] rfl)
      · rw [if_neg c_14] at h
        refine lv_iload hx hb dX12_waits_112 (lv_at hl 2 rfl) ?_
        refine lv_iload hx hb dX12_waits_114 (lv_at hl 8 rfl) ?_
        refine lv_icmp_ge (tgt := 124) hx hb dX12_waits_116 (by decide) (fun c_16 => ?_) (fun c_16 => ?_)
        · rw [if_pos c_16] at h
          refine lv_iload hx hb dX12_waits_124 (lv_at hl 8 rfl) ?_
          refine lv_istore (lv' := [(7, .int x7), (6, .int x8), (5, .int v_1), (10, .int y0), (0, .ref (E.2.2 + 199)), (1, .int x1), (2, .int x2), (3, .int x3), (4, .int x4), (8, .int x8)]) hx hb dX12_waits_126 hl (by decide) rfl (fun ls hl => ?_)
          refine lv_iinc (v := x8 + 1) (lv' := [(8, .int (x8 + 1)), (7, .int x7), (6, .int x8), (5, .int v_1), (10, .int y0), (0, .ref (E.2.2 + 199)), (1, .int x1), (2, .int x2), (3, .int x3), (4, .int x4)]) hx hb dX12_waits_128 hl (k := 9) rfl rfl (by decide) rfl (fun ls hl => ?_)
          obtain ⟨v_17, e_17, h⟩ := nm_some h
          have hl : lv_has ls 11 [(8, .int v_17), (7, .int x7), (6, .int x8), (5, .int v_1), (10, .int y0), (0, .ref (E.2.2 + 199)), (1, .int x1), (2, .int x2), (3, .int x3), (4, .int x4)] := by rw [e_17]; exact hl
          refine lv_goto (tgt := 35) hx hb dX12_waits_131 (by decide) ?_
          exact hrec_35 σ τ x1 x2 x3 x4 v_1 x8 x7 v_17 _ _ _ _ _ _ h hw (lv_sub hl [5, 6, 7, 8, 9, 3, 2, 1, 0] rfl)
        · rw [if_neg c_16] at h
          refine lv_iload hx hb dX12_waits_119 (lv_at hl 2 rfl) ?_
          refine lv_goto (tgt := 126) hx hb dX12_waits_121 (by decide) ?_
          refine lv_istore (lv' := [(7, .int y0), (6, .int x8), (5, .int v_1), (10, .int y0), (0, .ref (E.2.2 + 199)), (1, .int x1), (2, .int x2), (3, .int x3), (4, .int x4), (8, .int x8)]) hx hb dX12_waits_126 hl (by decide) rfl (fun ls hl => ?_)
          refine lv_iinc (v := x8 + 1) (lv' := [(8, .int (x8 + 1)), (7, .int y0), (6, .int x8), (5, .int v_1), (10, .int y0), (0, .ref (E.2.2 + 199)), (1, .int x1), (2, .int x2), (3, .int x3), (4, .int x4)]) hx hb dX12_waits_128 hl (k := 9) rfl rfl (by decide) rfl (fun ls hl => ?_)
          obtain ⟨v_18, e_18, h⟩ := nm_some h
          have hl : lv_has ls 11 [(8, .int v_18), (7, .int y0), (6, .int x8), (5, .int v_1), (10, .int y0), (0, .ref (E.2.2 + 199)), (1, .int x1), (2, .int x2), (3, .int x3), (4, .int x4)] := by rw [e_18]; exact hl
          refine lv_goto (tgt := 35) hx hb dX12_waits_131 (by decide) ?_
          exact hrec_35 σ τ x1 x2 x3 x4 v_1 x8 y0 v_18 _ _ _ _ _ _ h hw (lv_sub hl [5, 6, 7, 8, 9, 3, 2, 1, 0] rfl)
set_option maxHeartbeats 4000000 in
set_option maxRecDepth 100000 in
theorem k_X12_waits_35 (l : Launch) (S : CallFix P9 m9 C9 cX12_waits 11 s av.toArray gx_G RX12) (hr : meth.sig.returnType = (some .int)) (hlk : meth.locks = false) (hK : gx_K E s) (N : Nat) (rec_35 : gI → gJ → Int32 → Int32 → Int32 → Int32 → Int32 → Int32 → Int32 → Int32 → Option (Int32 × gI × gJ)) (hrec_35 : ∀ (σ : gI) (τ : gJ) (x1 : Int32) (x2 : Int32) (x3 : Int32) (x4 : Int32) (x5 : Int32) (x6 : Int32) (x7 : Int32) (x8 : Int32) (r : Int32) (σ1 : gI) (τ1 : gJ) (H : Heap) (locs : List Loc) (ls : Array Slot), rec_35 σ τ x1 x2 x3 x4 x5 x6 x7 x8 = some (r, σ1, τ1) → gx_W gx_tb gx_tb.length E s σ τ H locs → lv_has ls 11 [(0, .ref (E.2.2 + 199)), (1, .int x1), (2, .int x2), (3, .int x3), (4, .int x4), (5, .int x5), (6, .int x6), (7, .int x7), (8, .int x8)] → W P9 l e9 (gx_rm 9) s m9 av.toArray below meth C9 H locs 0 0 (gq_Qi below av s E r σ1 τ1) (F0 m9 35 ls [])) (σ : gI) (τ : gJ) (x1 : Int32) (x2 : Int32) (x3 : Int32) (x4 : Int32) (x5 : Int32) (x6 : Int32) (x7 : Int32) (x8 : Int32) {r : Int32} {σ1 : gI} {τ1 : gJ} (h : C_X12_waits_35 N rec_35 σ τ x1 x2 x3 x4 x5 x6 x7 x8 = some (r, σ1, τ1)) {H : Heap} {locs : List Loc} {ls : Array Slot} (hw : gx_W gx_tb gx_tb.length E s σ τ H locs) (hl : lv_has ls 11 [(0, .ref (E.2.2 + 199)), (1, .int x1), (2, .int x2), (3, .int x3), (4, .int x4), (5, .int x5), (6, .int x6), (7, .int x7), (8, .int x8)]) : W P9 l e9 (gx_rm 9) s m9 av.toArray below meth C9 H locs 0 0 (gq_Qi below av s E r σ1 τ1) (F0 m9 35 ls []) := by
  have hx := S.1
  have hb := S.2.1
  unfold C_X12_waits_35 at h
  refine lv_iload hx hb dX12_waits_35 (lv_at hl 8 rfl) ?_
  refine lv_bipush (v := 30) hx hb dX12_waits_37 (by decide) ?_
  refine lv_icmp_ge (tgt := 134) hx hb dX12_waits_39 (by decide) (fun c_1 => ?_) (fun c_1 => ?_)
  · rw [if_pos c_1] at h
    refine lv_aload_n hx hb dX12_waits_134 rfl (lv_at hl 0 rfl) ?_
    refine lv_iconst (v := 0) hx hb dX12_waits_135 (by decide) ?_
    refine gx_put S hK gx_ok hw t_199 cl_13 1 (by decide) rfl mw_1415 rfl rfl (ty := .int) (v := 0) (by decide +kernel) rfl rfl dX12_waits_136 (fun H locs hw => ?_)
    obtain ⟨σ_2, e_2, h⟩ := nm_some h
    rw [← e_2] at hw
    refine lv_aload_n hx hb dX12_waits_139 rfl (lv_at hl 0 rfl) ?_
    refine lv_iload hx hb dX12_waits_140 (lv_at hl 6 rfl) ?_
    refine lv_i2l (v := x6.toInt64) hx hb dX12_waits_142 rfl ?_
    obtain ⟨u_3, σ_3, τ_3, q_3, h⟩ := bd_some h
    refine gx_cVv (As := [.long x6.toInt64]) (rest := []) S hK gx_ok hw (c_X12_enters l (E := E) N σ_2 τ x6.toInt64 q_3) cw_X12_122 t_199 cl_13 ⟨Nat.le_of_ble_eq_true rfl, Nat.le_of_ble_eq_true rfl⟩ rfl hl.1 rfl (Nat.le_of_ble_eq_true rfl) ⟨Nat.le_of_ble_eq_true rfl, Nat.le_of_ble_eq_true rfl⟩ dX12_waits_143 (fun σ9 τ9 H locs hp hw => ?_)
    obtain ⟨rfl, rfl⟩ := hp
    refine lv_aload_n hx hb dX12_waits_146 rfl (lv_at hl 0 rfl) ?_
    refine lv_iload hx hb dX12_waits_147 (lv_at hl 7 rfl) ?_
    refine lv_i2l (v := x7.toInt64) hx hb dX12_waits_149 rfl ?_
    obtain ⟨u_4, σ_4, τ_4, q_4, h⟩ := bd_some h
    refine gx_cVv (As := [.long x7.toInt64]) (rest := []) S hK gx_ok hw (c_X12_enters l (E := E) N σ_3 τ_3 x7.toInt64 q_4) cw_X12_122 t_199 cl_13 ⟨Nat.le_of_ble_eq_true rfl, Nat.le_of_ble_eq_true rfl⟩ rfl hl.1 rfl (Nat.le_of_ble_eq_true rfl) ⟨Nat.le_of_ble_eq_true rfl, Nat.le_of_ble_eq_true rfl⟩ dX12_waits_150 (fun σ9 τ9 H locs hp hw => ?_)
    obtain ⟨rfl, rfl⟩ := hp
    refine lv_iload hx hb dX12_waits_153 (lv_at hl 5 rfl) ?_
    obtain ⟨rfl, rfl, rfl⟩ := sm_inj h
    exact gx_ri (post := gq_p x5 σ_4 τ_4) (v := x5) S hr hlk hw rfl dX12_waits_155 ⟨rfl, rfl, rfl⟩
  · rw [if_neg c_1] at h
    refine lv_aload_n hx hb dX12_waits_42 rfl (lv_at hl 0 rfl) ?_
    refine lv_iload_n hx hb dX12_waits_43 rfl (lv_at hl 1 rfl) ?_
    refine lv_iload_n hx hb dX12_waits_44 rfl (lv_at hl 2 rfl) ?_
    refine lv_iload_n hx hb dX12_waits_45 rfl (lv_at hl 3 rfl) ?_
    refine lv_iload hx hb dX12_waits_46 (lv_at hl 8 rfl) ?_
    refine lv_iload hx hb dX12_waits_48 (lv_at hl 4 rfl) ?_
    obtain ⟨r_5, σ_5, τ_5, q_5, h⟩ := bd_some h
    refine gx_cVi (As := [.int x1, .int x2, .int x3, .int x8, .int x4]) (rest := []) S hK gx_ok hw (c_X12_sails l (E := E) N σ τ x1 x2 x3 x8 x4 q_5) cw_X12_412 t_199 cl_13 ⟨Nat.le_of_ble_eq_true rfl, Nat.le_of_ble_eq_true rfl⟩ rfl hl.1 rfl (Nat.le_of_ble_eq_true rfl) ⟨Nat.le_of_ble_eq_true rfl, Nat.le_of_ble_eq_true rfl⟩ dX12_waits_50 (fun r9 σ9 τ9 H locs hp hw => ?_)
    obtain ⟨rfl, rfl, rfl⟩ := hp
    refine lv_istore (lv' := [(9, .int r_5), (0, .ref (E.2.2 + 199)), (1, .int x1), (2, .int x2), (3, .int x3), (4, .int x4), (5, .int x5), (6, .int x6), (7, .int x7), (8, .int x8)]) hx hb dX12_waits_53 hl (by decide) rfl (fun ls hl => ?_)
    refine lv_iload hx hb dX12_waits_55 (lv_at hl 0 rfl) ?_
    refine lv_if_lt (tgt := 128) hx hb dX12_waits_57 (by decide) (fun c_6 => ?_) (fun c_6 => ?_)
    · rw [if_pos c_6] at h
      refine lv_iinc (v := x8 + 1) (lv' := [(8, .int (x8 + 1)), (9, .int r_5), (0, .ref (E.2.2 + 199)), (1, .int x1), (2, .int x2), (3, .int x3), (4, .int x4), (5, .int x5), (6, .int x6), (7, .int x7)]) hx hb dX12_waits_128 hl (k := 9) rfl rfl (by decide) rfl (fun ls hl => ?_)
      obtain ⟨v_7, e_7, h⟩ := nm_some h
      have hl : lv_has ls 11 [(8, .int v_7), (9, .int r_5), (0, .ref (E.2.2 + 199)), (1, .int x1), (2, .int x2), (3, .int x3), (4, .int x4), (5, .int x5), (6, .int x6), (7, .int x7)] := by rw [e_7]; exact hl
      refine lv_goto (tgt := 35) hx hb dX12_waits_131 (by decide) ?_
      exact hrec_35 σ_5 τ_5 x1 x2 x3 x4 x5 x6 x7 v_7 _ _ _ _ _ _ h hw (lv_sub hl [2, 3, 4, 5, 6, 7, 8, 9, 0] rfl)
    · rw [if_neg c_6] at h
      refine lv_iload_n hx hb dX12_waits_60 rfl (lv_at hl 2 rfl) ?_
      refine lv_iload hx hb dX12_waits_61 (lv_at hl 5 rfl) ?_
      refine lv_icmp_ne (tgt := 70) hx hb dX12_waits_63 (by decide) (fun c_8 => ?_) (fun c_8 => ?_)
      · rw [if_neg c_8] at h
        refine lv_iload hx hb dX12_waits_70 (lv_at hl 0 rfl) ?_
        refine lv_iload hx hb dX12_waits_72 (lv_at hl 9 rfl) ?_
        refine lv_isub hx hb dX12_waits_74 ?_
        exact b_X12_waits_75 l S hr hlk hK N rec_35 hrec_35 σ_5 τ_5 x1 x2 x3 x4 x5 x6 x7 x8 (r_5 - x8) h hw (lv_sub hl [1, 2, 3, 4, 5, 6, 7, 8, 9] rfl)
      · rw [if_pos c_8] at h
        refine lv_iconst (v := 0) hx hb dX12_waits_66 (by decide) ?_
        refine lv_goto (tgt := 75) hx hb dX12_waits_67 (by decide) ?_
        exact b_X12_waits_75 l S hr hlk hK N rec_35 hrec_35 σ_5 τ_5 x1 x2 x3 x4 x5 x6 x7 x8 0 h hw (lv_sub hl [1, 2, 3, 4, 5, 6, 7, 8, 9] rfl)
set_option maxHeartbeats 4000000 in
set_option maxRecDepth 100000 in
theorem h_X12_waits_35 (l : Launch) (S : CallFix P9 m9 C9 cX12_waits 11 s av.toArray gx_G RX12) (hr : meth.sig.returnType = (some .int)) (hlk : meth.locks = false) (hK : gx_K E s) (N : Nat) : ∀ (n : Nat) (σ : gI) (τ : gJ) (x1 : Int32) (x2 : Int32) (x3 : Int32) (x4 : Int32) (x5 : Int32) (x6 : Int32) (x7 : Int32) (x8 : Int32) (r : Int32) (σ1 : gI) (τ1 : gJ), H_X12_waits_35 N n σ τ x1 x2 x3 x4 x5 x6 x7 x8 = some (r, σ1, τ1) → ∀ (H : Heap) (locs : List Loc) (ls : Array Slot), gx_W gx_tb gx_tb.length E s σ τ H locs → lv_has ls 11 [(0, .ref (E.2.2 + 199)), (1, .int x1), (2, .int x2), (3, .int x3), (4, .int x4), (5, .int x5), (6, .int x6), (7, .int x7), (8, .int x8)] → W P9 l e9 (gx_rm 9) s m9 av.toArray below meth C9 H locs 0 0 (gq_Qi below av s E r σ1 τ1) (F0 m9 35 ls []) := by
  intro n
  induction n with
  | zero => intro σ τ x1 x2 x3 x4 x5 x6 x7 x8 r σ1 τ1 h; cases h
  | succ n ih =>
    intro σ τ x1 x2 x3 x4 x5 x6 x7 x8 r σ1 τ1 h H locs ls hw hl
    exact k_X12_waits_35 l S hr hlk hK N (H_X12_waits_35 N n) (fun σ τ x1 x2 x3 x4 x5 x6 x7 x8 r σ1 τ1 H locs ls h hw hl => ih σ τ x1 x2 x3 x4 x5 x6 x7 x8 r σ1 τ1 h H locs ls hw hl) σ τ x1 x2 x3 x4 x5 x6 x7 x8 h hw hl
set_option maxHeartbeats 4000000 in
set_option maxRecDepth 100000 in
theorem b_X12_waits_0 (l : Launch) (S : CallFix P9 m9 C9 cX12_waits 11 s av.toArray gx_G RX12) (hr : meth.sig.returnType = (some .int)) (hlk : meth.locks = false) (hK : gx_K E s) (N : Nat) (σ : gI) (τ : gJ) (x1 : Int32) (x2 : Int32) (x3 : Int32) (x4 : Int32) {r : Int32} {σ1 : gI} {τ1 : gJ} (h : B_X12_waits_0 N σ τ x1 x2 x3 x4 = some (r, σ1, τ1)) {H : Heap} {locs : List Loc} {ls : Array Slot} (hw : gx_W gx_tb gx_tb.length E s σ τ H locs) (hl : lv_has ls 11 [(0, .ref (E.2.2 + 199)), (1, .int x1), (2, .int x2), (3, .int x3), (4, .int x4)]) : W P9 l e9 (gx_rm 9) s m9 av.toArray below meth C9 H locs 0 0 (gq_Qi below av s E r σ1 τ1) (F0 m9 0 ls []) := by
  have hx := S.1
  have hb := S.2.1
  unfold B_X12_waits_0 at h
  refine lv_aload_n hx hb dX12_waits_0 rfl (lv_at hl 0 rfl) ?_
  refine lv_iconst (v := 0) hx hb dX12_waits_1 (by decide) ?_
  refine gx_put S hK gx_ok hw t_199 cl_13 0 (by decide) rfl mw_1414 rfl rfl (ty := .int) (v := 0) (by decide +kernel) rfl rfl dX12_waits_2 (fun H locs hw => ?_)
  obtain ⟨σ_1, e_1, h⟩ := nm_some h
  rw [← e_1] at hw
  refine lv_aload_n hx hb dX12_waits_5 rfl (lv_at hl 0 rfl) ?_
  refine lv_iload_n hx hb dX12_waits_6 rfl (lv_at hl 1 rfl) ?_
  refine lv_iload_n hx hb dX12_waits_7 rfl (lv_at hl 2 rfl) ?_
  refine lv_iload_n hx hb dX12_waits_8 rfl (lv_at hl 3 rfl) ?_
  refine lv_iload hx hb dX12_waits_9 (lv_at hl 4 rfl) ?_
  obtain ⟨r_2, σ_2, τ_2, q_2, h⟩ := bd_some h
  refine gx_cVi (As := [.int x1, .int x2, .int x3, .int x4]) (rest := []) S hK gx_ok hw (c_X12_canSail l (E := E) N σ_1 τ x1 x2 x3 x4 q_2) cw_X12_405 t_199 cl_13 ⟨Nat.le_of_ble_eq_true rfl, Nat.le_of_ble_eq_true rfl⟩ rfl hl.1 rfl (Nat.le_of_ble_eq_true rfl) ⟨Nat.le_of_ble_eq_true rfl, Nat.le_of_ble_eq_true rfl⟩ dX12_waits_11 (fun r9 σ9 τ9 H locs hp hw => ?_)
  obtain ⟨rfl, rfl, rfl⟩ := hp
  refine lv_if_ne (tgt := 19) hx hb dX12_waits_14 (by decide) (fun c_3 => ?_) (fun c_3 => ?_)
  · rw [if_neg c_3] at h
    refine lv_aload_n hx hb dX12_waits_19 rfl (lv_at hl 0 rfl) ?_
    obtain ⟨u_4, σ_4, τ_4, q_4, h⟩ := bd_some h
    refine gx_cVv (As := []) (rest := []) S hK gx_ok hw (c_X12_thinksNow l (E := E) N σ_2 τ_2 q_4) cw_X12_409 t_199 cl_13 ⟨Nat.le_of_ble_eq_true rfl, Nat.le_of_ble_eq_true rfl⟩ rfl hl.1 rfl (Nat.le_of_ble_eq_true rfl) ⟨Nat.le_of_ble_eq_true rfl, Nat.le_of_ble_eq_true rfl⟩ dX12_waits_20 (fun σ9 τ9 H locs hp hw => ?_)
    obtain ⟨rfl, rfl⟩ := hp
    refine lv_iconst (v := 0) hx hb dX12_waits_23 (by decide) ?_
    refine lv_istore (lv' := [(5, .int 0), (0, .ref (E.2.2 + 199)), (1, .int x1), (2, .int x2), (3, .int x3), (4, .int x4)]) hx hb dX12_waits_24 hl (by decide) rfl (fun ls hl => ?_)
    refine lv_iconst (v := (-1)) hx hb dX12_waits_26 (by decide) ?_
    refine lv_istore (lv' := [(6, .int (-1)), (5, .int 0), (0, .ref (E.2.2 + 199)), (1, .int x1), (2, .int x2), (3, .int x3), (4, .int x4)]) hx hb dX12_waits_27 hl (by decide) rfl (fun ls hl => ?_)
    refine lv_iconst (v := (-1)) hx hb dX12_waits_29 (by decide) ?_
    refine lv_istore (lv' := [(7, .int (-1)), (6, .int (-1)), (5, .int 0), (0, .ref (E.2.2 + 199)), (1, .int x1), (2, .int x2), (3, .int x3), (4, .int x4)]) hx hb dX12_waits_30 hl (by decide) rfl (fun ls hl => ?_)
    refine lv_iconst (v := 0) hx hb dX12_waits_32 (by decide) ?_
    refine lv_istore (lv' := [(8, .int 0), (7, .int (-1)), (6, .int (-1)), (5, .int 0), (0, .ref (E.2.2 + 199)), (1, .int x1), (2, .int x2), (3, .int x3), (4, .int x4)]) hx hb dX12_waits_33 hl (by decide) rfl (fun ls hl => ?_)
    exact h_X12_waits_35 l S hr hlk hK N N σ_4 τ_4 x1 x2 x3 x4 0 (-1) (-1) 0 _ _ _ h _ _ _ hw (lv_sub hl [4, 5, 6, 7, 8, 3, 2, 1, 0] rfl)
  · rw [if_pos c_3] at h
    refine lv_iconst (v := (-1)) hx hb dX12_waits_17 (by decide) ?_
    obtain ⟨rfl, rfl, rfl⟩ := sm_inj h
    exact gx_ri (post := gq_p (-1) σ_2 τ_2) (v := (-1)) S hr hlk hw rfl dX12_waits_18 ⟨rfl, rfl, rfl⟩
set_option maxHeartbeats 4000000 in
set_option maxRecDepth 100000 in
theorem c_X12_waits (l : Launch) {E : gE} (N : Nat) (σ : gI) (τ : gJ) (x1 : Int32) (x2 : Int32) (x3 : Int32) (x4 : Int32) {r : Int32} {σ1 : gI} {τ1 : gJ} (h : B_X12_waits_0 N σ τ x1 x2 x3 x4 = some (r, σ1, τ1)) : gx_Mi l yX12_waits cX12_waits 11 (some .int) 9 gx_tb E σ τ [.ref (E.2.2 + 199), .int x1, .int x2, .int x3, .int x4] (gq_p r σ1 τ1) := by
  refine gx_bi (by decide +kernel) (Nat.le_of_ble_eq_true rfl) ?_
  intro P9 e9 s m9 below meth C9 S hr hlk hK hw ls hl
  have hl : lv_has ls 11 [(0, .ref (E.2.2 + 199)), (1, .int x1), (2, .int x2), (3, .int x3), (4, .int x4)] := hl
  exact b_X12_waits_0 l S hr hlk hK N σ τ x1 x2 x3 x4 h hw hl
/-! X12_water -/
def C_X12_water_64 (N : Nat) (rec_64 : gI → gJ → Int32 → Int32 → Option (Int32 × gI × gJ)) (σ : gI) (τ : gJ) (x2 : Int32) (x4 : Int32) : Option (Int32 × gI × gJ) := if x2 ≤ x4 then (some (x2, σ, τ)) else (ck x4 40 fun j_2 => nm (up2 σ 205 j_2 (σ 215 j_2)) fun σ_3 => nm (x4 + 1) fun v_4 => rec_64 σ_3 τ x2 v_4)
def H_X12_water_64 (N : Nat) : Nat → gI → gJ → Int32 → Int32 → Option (Int32 × gI × gJ) := itn (fun rec_64 => C_X12_water_64 N rec_64) (fun _ _ _ _ => none)
def C_X12_water_14 (N : Nat) (rec_14 : gI → gJ → Int32 → Int32 → Option (Int32 × gI × gJ)) (σ : gI) (τ : gJ) (x1 : Int32) (x2 : Int32) : Option (Int32 × gI × gJ) := bd (B_X12_among_0 N sb_14 σ τ) fun r_1 σ_1 τ_1 => if r_1 < 0 then (bd (B_X12_faultOf_0 N σ_1 τ_1 x1 40 1) fun r_3 σ_3 τ_3 => if 0 ≤ r_3 then (nm (up2 σ_3 199 4 x2) fun σ_5 => H_X12_water_64 N N σ_5 τ_3 x2 0) else (some (r_3, σ_3, τ_3))) else (bd (B_X12_takesOf_0 N sb_14 σ_1 τ_1) fun r_6 σ_6 τ_6 => ck x2 40 fun j_7 => nm (up2 σ_6 215 j_7 r_6) fun σ_8 => nm (x2 + 1) fun v_9 => rec_14 σ_8 τ_6 x1 v_9)
def H_X12_water_14 (N : Nat) : Nat → gI → gJ → Int32 → Int32 → Option (Int32 × gI × gJ) := itn (fun rec_14 => C_X12_water_14 N rec_14) (fun _ _ _ _ => none)
def B_X12_water_0 (N : Nat) (σ : gI) (τ : gJ) : Option (Int32 × gI × gJ) := nm (up2 σ 199 0 0) fun σ_1 => bd (B_X12_begins_0 N σ_1 τ 40) fun r_2 σ_2 τ_2 => H_X12_water_14 N N σ_2 τ_2 r_2 0
set_option maxHeartbeats 4000000 in
set_option maxRecDepth 100000 in
theorem k_X12_water_64 (l : Launch) (S : CallFix P9 m9 C9 cX12_water 5 s av.toArray gx_G RX12) (hr : meth.sig.returnType = (some .int)) (hlk : meth.locks = false) (hK : gx_K E s) (N : Nat) (rec_64 : gI → gJ → Int32 → Int32 → Option (Int32 × gI × gJ)) (hrec_64 : ∀ (σ : gI) (τ : gJ) (x2 : Int32) (x4 : Int32) (r : Int32) (σ1 : gI) (τ1 : gJ) (H : Heap) (locs : List Loc) (ls : Array Slot), rec_64 σ τ x2 x4 = some (r, σ1, τ1) → gx_W gx_tb gx_tb.length E s σ τ H locs → lv_has ls 5 [(0, .ref (E.2.2 + 199)), (2, .int x2), (4, .int x4)] → W P9 l e9 (gx_rm 6) s m9 av.toArray below meth C9 H locs 0 0 (gq_Qi below av s E r σ1 τ1) (F0 m9 64 ls [])) (σ : gI) (τ : gJ) (x2 : Int32) (x4 : Int32) {r : Int32} {σ1 : gI} {τ1 : gJ} (h : C_X12_water_64 N rec_64 σ τ x2 x4 = some (r, σ1, τ1)) {H : Heap} {locs : List Loc} {ls : Array Slot} (hw : gx_W gx_tb gx_tb.length E s σ τ H locs) (hl : lv_has ls 5 [(0, .ref (E.2.2 + 199)), (2, .int x2), (4, .int x4)]) : W P9 l e9 (gx_rm 6) s m9 av.toArray below meth C9 H locs 0 0 (gq_Qi below av s E r σ1 τ1) (F0 m9 64 ls []) := by
  have hx := S.1
  have hb := S.2.1
  unfold C_X12_water_64 at h
  refine lv_iload hx hb dX12_water_64 (lv_at hl 2 rfl) ?_
  refine lv_iload_n hx hb dX12_water_66 rfl (lv_at hl 1 rfl) ?_
  refine lv_icmp_ge (tgt := 90) hx hb dX12_water_67 (by decide) (fun c_1 => ?_) (fun c_1 => ?_)
  · rw [if_pos c_1] at h
    refine lv_iload_n hx hb dX12_water_90 rfl (lv_at hl 1 rfl) ?_
    obtain ⟨rfl, rfl, rfl⟩ := sm_inj h
    exact gx_ri (post := gq_p x2 σ τ) (v := x2) S hr hlk hw rfl dX12_water_91 ⟨rfl, rfl, rfl⟩
  · rw [if_neg c_1] at h
    refine lv_aload_n hx hb dX12_water_70 rfl (lv_at hl 0 rfl) ?_
    refine gx_getr (j := 205) S hK hw t_199 cl_13 9 (by decide) rfl mw_1423 rfl dX12_water_71 ?_
    refine lv_iload hx hb dX12_water_74 (lv_at hl 2 rfl) ?_
    refine lv_aload_n hx hb dX12_water_76 rfl (lv_at hl 0 rfl) ?_
    refine gx_getr (j := 215) S hK hw t_199 cl_13 25 (by decide) rfl mw_1439 rfl dX12_water_77 ?_
    refine lv_iload hx hb dX12_water_80 (lv_at hl 2 rfl) ?_
    obtain ⟨j_2, hj_2, hi_2, h⟩ := ck_some h
    refine gx_iald S hK hw t_215 j_2 hj_2 hi_2 dX12_water_82 ?_
    refine gx_iast S hK gx_ok hw t_205 j_2 hj_2 hi_2 dX12_water_83 (fun H locs hw => ?_)
    obtain ⟨σ_3, e_3, h⟩ := nm_some h
    rw [← e_3] at hw
    refine lv_iinc (v := x4 + 1) (lv' := [(4, .int (x4 + 1)), (0, .ref (E.2.2 + 199)), (2, .int x2)]) hx hb dX12_water_84 hl (k := 2) rfl rfl (by decide) rfl (fun ls hl => ?_)
    obtain ⟨v_4, e_4, h⟩ := nm_some h
    have hl : lv_has ls 5 [(4, .int v_4), (0, .ref (E.2.2 + 199)), (2, .int x2)] := by rw [e_4]; exact hl
    refine lv_goto (tgt := 64) hx hb dX12_water_87 (by decide) ?_
    exact hrec_64 σ_3 τ x2 v_4 _ _ _ _ _ _ h hw (lv_sub hl [1, 2, 0] rfl)
set_option maxHeartbeats 4000000 in
set_option maxRecDepth 100000 in
theorem h_X12_water_64 (l : Launch) (S : CallFix P9 m9 C9 cX12_water 5 s av.toArray gx_G RX12) (hr : meth.sig.returnType = (some .int)) (hlk : meth.locks = false) (hK : gx_K E s) (N : Nat) : ∀ (n : Nat) (σ : gI) (τ : gJ) (x2 : Int32) (x4 : Int32) (r : Int32) (σ1 : gI) (τ1 : gJ), H_X12_water_64 N n σ τ x2 x4 = some (r, σ1, τ1) → ∀ (H : Heap) (locs : List Loc) (ls : Array Slot), gx_W gx_tb gx_tb.length E s σ τ H locs → lv_has ls 5 [(0, .ref (E.2.2 + 199)), (2, .int x2), (4, .int x4)] → W P9 l e9 (gx_rm 6) s m9 av.toArray below meth C9 H locs 0 0 (gq_Qi below av s E r σ1 τ1) (F0 m9 64 ls []) := by
  intro n
  induction n with
  | zero => intro σ τ x2 x4 r σ1 τ1 h; cases h
  | succ n ih =>
    intro σ τ x2 x4 r σ1 τ1 h H locs ls hw hl
    exact k_X12_water_64 l S hr hlk hK N (H_X12_water_64 N n) (fun σ τ x2 x4 r σ1 τ1 H locs ls h hw hl => ih σ τ x2 x4 r σ1 τ1 h H locs ls hw hl) σ τ x2 x4 h hw hl
set_option maxHeartbeats 4000000 in
set_option maxRecDepth 100000 in
theorem k_X12_water_14 (l : Launch) (S : CallFix P9 m9 C9 cX12_water 5 s av.toArray gx_G RX12) (hr : meth.sig.returnType = (some .int)) (hlk : meth.locks = false) (hK : gx_K E s) (N : Nat) (rec_14 : gI → gJ → Int32 → Int32 → Option (Int32 × gI × gJ)) (hrec_14 : ∀ (σ : gI) (τ : gJ) (x1 : Int32) (x2 : Int32) (r : Int32) (σ1 : gI) (τ1 : gJ) (H : Heap) (locs : List Loc) (ls : Array Slot), rec_14 σ τ x1 x2 = some (r, σ1, τ1) → gx_W gx_tb gx_tb.length E s σ τ H locs → lv_has ls 5 [(0, .ref (E.2.2 + 199)), (1, .int x1), (2, .int x2)] → W P9 l e9 (gx_rm 6) s m9 av.toArray below meth C9 H locs 0 0 (gq_Qi below av s E r σ1 τ1) (F0 m9 14 ls [])) (σ : gI) (τ : gJ) (x1 : Int32) (x2 : Int32) {r : Int32} {σ1 : gI} {τ1 : gJ} (h : C_X12_water_14 N rec_14 σ τ x1 x2 = some (r, σ1, τ1)) {H : Heap} {locs : List Loc} {ls : Array Slot} (hw : gx_W gx_tb gx_tb.length E s σ τ H locs) (hl : lv_has ls 5 [(0, .ref (E.2.2 + 199)), (1, .int x1), (2, .int x2)]) : W P9 l e9 (gx_rm 6) s m9 av.toArray below meth C9 H locs 0 0 (gq_Qi below av s E r σ1 τ1) (F0 m9 14 ls []) := by
  have hx := S.1
  have hb := S.2.1
  unfold C_X12_water_14 at h
  refine lv_aload_n hx hb dX12_water_14 rfl (lv_at hl 0 rfl) ?_
  refine gx_lds S hK ss_14 rfl dX12_water_15 ?_
  obtain ⟨r_1, σ_1, τ_1, q_1, h⟩ := bd_some h
  refine zs_V (As := [.ref (E.1.2.1 14)]) (rest := []) S hK hw (zs_k hK hw zk_14) (c_X12_among l (E := E) N sb_14 σ τ q_1) rfl cw_X12_173 (va_recv hK.1 hw.1 cl_13.1 (gx_at t_199)) ⟨Nat.le_of_ble_eq_true rfl, Nat.le_of_ble_eq_true rfl⟩ rfl hl.1 rfl (Nat.le_of_ble_eq_true rfl) ⟨Nat.le_of_ble_eq_true rfl, Nat.le_of_ble_eq_true rfl⟩ dX12_water_17 (fun r9 σ9 τ9 H locs hp hw => ?_)
  obtain ⟨rfl, rfl, rfl⟩ := hp
  refine lv_if_lt (tgt := 41) hx hb dX12_water_20 (by decide) (fun c_2 => ?_) (fun c_2 => ?_)
  · rw [if_pos c_2] at h
    refine lv_aload_n hx hb dX12_water_41 rfl (lv_at hl 0 rfl) ?_
    refine lv_iload_n hx hb dX12_water_42 rfl (lv_at hl 1 rfl) ?_
    refine lv_bipush (v := 40) hx hb dX12_water_43 (by decide) ?_
    refine lv_iconst (v := 1) hx hb dX12_water_45 (by decide) ?_
    obtain ⟨r_3, σ_3, τ_3, q_3, h⟩ := bd_some h
    refine gx_cVi (As := [.int x1, .int 40, .int 1]) (rest := []) S hK gx_ok hw (c_X12_faultOf l (E := E) N σ_1 τ_1 x1 40 1 q_3) cw_X12_213 t_199 cl_13 ⟨Nat.le_of_ble_eq_true rfl, Nat.le_of_ble_eq_true rfl⟩ rfl hl.1 rfl (Nat.le_of_ble_eq_true rfl) ⟨Nat.le_of_ble_eq_true rfl, Nat.le_of_ble_eq_true rfl⟩ dX12_water_46 (fun r9 σ9 τ9 H locs hp hw => ?_)
    obtain ⟨rfl, rfl, rfl⟩ := hp
    refine lv_istore_n (lv' := [(3, .int r_3), (0, .ref (E.2.2 + 199)), (1, .int x1), (2, .int x2)]) hx hb dX12_water_49 rfl hl (by decide) rfl (fun ls hl => ?_)
    refine lv_iload_n hx hb dX12_water_50 rfl (lv_at hl 0 rfl) ?_
    refine lv_if_ge (tgt := 56) hx hb dX12_water_51 (by decide) (fun c_4 => ?_) (fun c_4 => ?_)
    · rw [if_pos c_4] at h
      refine lv_aload_n hx hb dX12_water_56 rfl (lv_at hl 1 rfl) ?_
      refine lv_iload_n hx hb dX12_water_57 rfl (lv_at hl 3 rfl) ?_
      refine gx_put S hK gx_ok hw t_199 cl_13 4 (by decide) rfl mw_1418 rfl rfl (ty := .int) (v := x2) (by decide +kernel) rfl rfl dX12_water_58 (fun H locs hw => ?_)
      obtain ⟨σ_5, e_5, h⟩ := nm_some h
      rw [← e_5] at hw
      refine lv_iconst (v := 0) hx hb dX12_water_61 (by decide) ?_
      refine lv_istore (lv' := [(4, .int 0), (3, .int r_3), (0, .ref (E.2.2 + 199)), (1, .int x1), (2, .int x2)]) hx hb dX12_water_62 hl (by decide) rfl (fun ls hl => ?_)
      exact h_X12_water_64 l S hr hlk hK N N σ_5 τ_3 x2 0 _ _ _ h _ _ _ hw (lv_sub hl [2, 4, 0] rfl)
    · rw [if_neg c_4] at h
      refine lv_iload_n hx hb dX12_water_54 rfl (lv_at hl 0 rfl) ?_
      obtain ⟨rfl, rfl, rfl⟩ := sm_inj h
      exact gx_ri (post := gq_p r_3 σ_3 τ_3) (v := r_3) S hr hlk hw rfl dX12_water_55 ⟨rfl, rfl, rfl⟩
  · rw [if_neg c_2] at h
    refine lv_aload_n hx hb dX12_water_23 rfl (lv_at hl 0 rfl) ?_
    refine gx_getr (j := 215) S hK hw t_199 cl_13 25 (by decide) rfl mw_1439 rfl dX12_water_24 ?_
    refine lv_iload_n hx hb dX12_water_27 rfl (lv_at hl 2 rfl) ?_
    refine lv_aload_n hx hb dX12_water_28 rfl (lv_at hl 0 rfl) ?_
    refine gx_lds S hK ss_14 rfl dX12_water_29 ?_
    obtain ⟨r_6, σ_6, τ_6, q_6, h⟩ := bd_some h
    refine zs_V (As := [.ref (E.1.2.1 14)]) (rest := [.int x2, .ref (E.2.2 + 215)]) S hK hw (zs_k hK hw zk_14) (c_X12_takesOf l (E := E) N sb_14 σ_1 τ_1 q_6) rfl cw_X12_183 (va_recv hK.1 hw.1 cl_13.1 (gx_at t_199)) ⟨Nat.le_of_ble_eq_true rfl, Nat.le_of_ble_eq_true rfl⟩ rfl hl.1 rfl (Nat.le_of_ble_eq_true rfl) ⟨Nat.le_of_ble_eq_true rfl, Nat.le_of_ble_eq_true rfl⟩ dX12_water_31 (fun r9 σ9 τ9 H locs hp hw => ?_)
    obtain ⟨rfl, rfl, rfl⟩ := hp
    obtain ⟨j_7, hj_7, hi_7, h⟩ := ck_some h
    refine gx_iast S hK gx_ok hw t_215 j_7 hj_7 hi_7 dX12_water_34 (fun H locs hw => ?_)
    obtain ⟨σ_8, e_8, h⟩ := nm_some h
    rw [← e_8] at hw
    refine lv_iinc (v := x2 + 1) (lv' := [(2, .int (x2 + 1)), (0, .ref (E.2.2 + 199)), (1, .int x1)]) hx hb dX12_water_35 hl (k := 2) rfl rfl (by decide) rfl (fun ls hl => ?_)
    obtain ⟨v_9, e_9, h⟩ := nm_some h
    have hl : lv_has ls 5 [(2, .int v_9), (0, .ref (E.2.2 + 199)), (1, .int x1)] := by rw [e_9]; exact hl
    refine lv_goto (tgt := 14) hx hb dX12_water_38 (by decide) ?_
    exact hrec_14 σ_8 τ_6 x1 v_9 _ _ _ _ _ _ h hw (lv_sub hl [1, 2, 0] rfl)
set_option maxHeartbeats 4000000 in
set_option maxRecDepth 100000 in
theorem h_X12_water_14 (l : Launch) (S : CallFix P9 m9 C9 cX12_water 5 s av.toArray gx_G RX12) (hr : meth.sig.returnType = (some .int)) (hlk : meth.locks = false) (hK : gx_K E s) (N : Nat) : ∀ (n : Nat) (σ : gI) (τ : gJ) (x1 : Int32) (x2 : Int32) (r : Int32) (σ1 : gI) (τ1 : gJ), H_X12_water_14 N n σ τ x1 x2 = some (r, σ1, τ1) → ∀ (H : Heap) (locs : List Loc) (ls : Array Slot), gx_W gx_tb gx_tb.length E s σ τ H locs → lv_has ls 5 [(0, .ref (E.2.2 + 199)), (1, .int x1), (2, .int x2)] → W P9 l e9 (gx_rm 6) s m9 av.toArray below meth C9 H locs 0 0 (gq_Qi below av s E r σ1 τ1) (F0 m9 14 ls []) := by
  intro n
  induction n with
  | zero => intro σ τ x1 x2 r σ1 τ1 h; cases h
  | succ n ih =>
    intro σ τ x1 x2 r σ1 τ1 h H locs ls hw hl
    exact k_X12_water_14 l S hr hlk hK N (H_X12_water_14 N n) (fun σ τ x1 x2 r σ1 τ1 H locs ls h hw hl => ih σ τ x1 x2 r σ1 τ1 h H locs ls hw hl) σ τ x1 x2 h hw hl
set_option maxHeartbeats 4000000 in
set_option maxRecDepth 100000 in
theorem b_X12_water_0 (l : Launch) (S : CallFix P9 m9 C9 cX12_water 5 s av.toArray gx_G RX12) (hr : meth.sig.returnType = (some .int)) (hlk : meth.locks = false) (hK : gx_K E s) (N : Nat) (σ : gI) (τ : gJ) {r : Int32} {σ1 : gI} {τ1 : gJ} (h : B_X12_water_0 N σ τ = some (r, σ1, τ1)) {H : Heap} {locs : List Loc} {ls : Array Slot} (hw : gx_W gx_tb gx_tb.length E s σ τ H locs) (hl : lv_has ls 5 [(0, .ref (E.2.2 + 199))]) : W P9 l e9 (gx_rm 6) s m9 av.toArray below meth C9 H locs 0 0 (gq_Qi below av s E r σ1 τ1) (F0 m9 0 ls []) := by
  have hx := S.1
  have hb := S.2.1
  unfold B_X12_water_0 at h
  refine lv_aload_n hx hb dX12_water_0 rfl (lv_at hl 0 rfl) ?_
  refine lv_iconst (v := 0) hx hb dX12_water_1 (by decide) ?_
  refine gx_put S hK gx_ok hw t_199 cl_13 0 (by decide) rfl mw_1414 rfl rfl (ty := .int) (v := 0) (by decide +kernel) rfl rfl dX12_water_2 (fun H locs hw => ?_)
  obtain ⟨σ_1, e_1, h⟩ := nm_some h
  rw [← e_1] at hw
  refine lv_aload_n hx hb dX12_water_5 rfl (lv_at hl 0 rfl) ?_
  refine lv_bipush (v := 40) hx hb dX12_water_6 (by decide) ?_
  obtain ⟨r_2, σ_2, τ_2, q_2, h⟩ := bd_some h
  refine gx_cVi (As := [.int 40]) (rest := []) S hK gx_ok hw (c_X12_begins l (E := E) N σ_1 τ 40 q_2) cw_X12_203 t_199 cl_13 ⟨Nat.le_of_ble_eq_true rfl, Nat.le_of_ble_eq_true rfl⟩ rfl hl.1 rfl (Nat.le_of_ble_eq_true rfl) ⟨Nat.le_of_ble_eq_true rfl, Nat.le_of_ble_eq_true rfl⟩ dX12_water_8 (fun r9 σ9 τ9 H locs hp hw => ?_)
  obtain ⟨rfl, rfl, rfl⟩ := hp
  refine lv_istore_n (lv' := [(1, .int r_2), (0, .ref (E.2.2 + 199))]) hx hb dX12_water_11 rfl hl (by decide) rfl (fun ls hl => ?_)
  refine lv_iconst (v := 0) hx hb dX12_water_12 (by decide) ?_
  refine lv_istore_n (lv' := [(2, .int 0), (1, .int r_2), (0, .ref (E.2.2 + 199))]) hx hb dX12_water_13 rfl hl (by decide) rfl (fun ls hl => ?_)
  exact h_X12_water_14 l S hr hlk hK N N σ_2 τ_2 r_2 0 _ _ _ h _ _ _ hw (lv_sub hl [2, 1, 0] rfl)
set_option maxHeartbeats 4000000 in
set_option maxRecDepth 100000 in
theorem c_X12_water (l : Launch) {E : gE} (N : Nat) (σ : gI) (τ : gJ) {r : Int32} {σ1 : gI} {τ1 : gJ} (h : B_X12_water_0 N σ τ = some (r, σ1, τ1)) : gx_Mi l yX12_water cX12_water 5 (some .int) 6 gx_tb E σ τ [.ref (E.2.2 + 199)] (gq_p r σ1 τ1) := by
  refine gx_bi (by decide +kernel) (Nat.le_of_ble_eq_true rfl) ?_
  intro P9 e9 s m9 below meth C9 S hr hlk hK hw ls hl
  have hl : lv_has ls 5 [(0, .ref (E.2.2 + 199))] := hl
  exact b_X12_water_0 l S hr hlk hK N σ τ h hw hl
end F8
