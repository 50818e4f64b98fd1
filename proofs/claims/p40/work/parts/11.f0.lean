section F0
variable {a9 v9 : Nat} {w9 : Value} {P9 : Program} {e9 : Env} {s : State} {m9 : MethodId} {below : List Frame} {meth : Method} {C9 : Code} {E : gE} {av : List Value}
/-! X0_add -/
def B_X0_add_0 (N : Nat) (σ : gI) (τ : gJ) (x1 : Int32) (x2 : Int32) (x3 : Int32) : Option (Int32 × gI × gJ) := if σ 152 3 < 0 then (some (0, σ, τ)) else (if σ 152 3 < 10 then (ck (σ 152 3) 10 fun j_3 => nm (up2 σ 153 j_3 x1) fun σ_4 => ck (σ_4 152 3) 10 fun j_5 => nm (up2 σ_4 154 j_5 x2) fun σ_6 => ck (σ_6 152 3) 10 fun j_7 => nm (up2 σ_6 155 j_7 x3) fun σ_8 => nm (up2 σ_8 152 3 ((σ_8 152 3) + 1)) fun σ_9 => some (1, σ_9, τ)) else (some (0, σ, τ)))
set_option maxHeartbeats 4000000 in
set_option maxRecDepth 100000 in
theorem b_X0_add_0 (l : Launch) (S : CallFix P9 m9 C9 cX0_add 4 s av.toArray gx_G RX0) (hr : meth.sig.returnType = (some .boolean)) (hlk : meth.locks = false) (hK : gx_K E s) (N : Nat) (σ : gI) (τ : gJ) (x1 : Int32) (x2 : Int32) (x3 : Int32) {r : Int32} {σ1 : gI} {τ1 : gJ} (h : B_X0_add_0 N σ τ x1 x2 x3 = some (r, σ1, τ1)) {H : Heap} {locs : List Loc} {ls : Array Slot} (hw : gx_W gx_tb gx_tb.length E s σ τ H locs) (hl : lv_has ls 4 [(0, .ref (E.2.2 + 152)), (1, .int x1), (2, .int x2), (3, .int x3)]) : W P9 l e9 (gx_rm 0) s m9 av.toArray below meth C9 H locs 0 0 (gq_Qi below av s E r σ1 τ1) (F0 m9 0 ls []) := by
  have hx := S.1
  have hb := S.2.1
  unfold B_X0_add_0 at h
  refine lv_aload_n hx hb dX0_add_0 rfl (lv_at hl 0 rfl) ?_
  refine gx_get S hK hw t_152 cl_1 3 (by decide) rfl mw_339 rfl dX0_add_1 ?_
  refine lv_if_lt (tgt := 16) hx hb dX0_add_4 (by decide) (fun c_1 => ?_) (fun c_1 => ?_)
  · rw [if_pos c_1] at h
    refine lv_iconst (v := 0) hx hb dX0_add_16 (by decide) ?_
    obtain ⟨rfl, rfl, rfl⟩ := sm_inj h
    exact gx_ri (post := gq_p 0 σ τ) (v := 0) S hr hlk hw rfl dX0_add_17 ⟨rfl, rfl, rfl⟩
  · rw [if_neg c_1] at h
    refine lv_aload_n hx hb dX0_add_7 rfl (lv_at hl 0 rfl) ?_
    refine gx_get S hK hw t_152 cl_1 3 (by decide) rfl mw_339 rfl dX0_add_8 ?_
    refine lv_bipush (v := 10) hx hb dX0_add_11 (by decide) ?_
    refine lv_icmp_lt (tgt := 18) hx hb dX0_add_13 (by decide) (fun c_2 => ?_) (fun c_2 => ?_)
    · rw [if_pos c_2] at h
      refine lv_aload_n hx hb dX0_add_18 rfl (lv_at hl 0 rfl) ?_
      refine gx_getr (j := 153) S hK hw t_152 cl_1 0 (by decide) rfl mw_336 rfl dX0_add_19 ?_
      refine lv_aload_n hx hb dX0_add_22 rfl (lv_at hl 0 rfl) ?_
      refine gx_get S hK hw t_152 cl_1 3 (by decide) rfl mw_339 rfl dX0_add_23 ?_
      refine lv_iload_n hx hb dX0_add_26 rfl (lv_at hl 1 rfl) ?_
      obtain ⟨j_3, hj_3, hi_3, h⟩ := ck_some h
      refine gx_iast S hK gx_ok hw t_153 j_3 hj_3 hi_3 dX0_add_27 (fun H locs hw => ?_)
      obtain ⟨σ_4, e_4, h⟩ := nm_some h
      rw [← e_4] at hw
      refine lv_aload_n hx hb dX0_add_28 rfl (lv_at hl 0 rfl) ?_
      refine gx_getr (j := 154) S hK hw t_152 cl_1 1 (by decide) rfl mw_337 rfl dX0_add_29 ?_
      refine lv_aload_n hx hb dX0_add_32 rfl (lv_at hl 0 rfl) ?_
      refine gx_get S hK hw t_152 cl_1 3 (by decide) rfl mw_339 rfl dX0_add_33 ?_
      refine lv_iload_n hx hb dX0_add_36 rfl (lv_at hl 2 rfl) ?_
      obtain ⟨j_5, hj_5, hi_5, h⟩ := ck_some h
      refine gx_iast S hK gx_ok hw t_154 j_5 hj_5 hi_5 dX0_add_37 (fun H locs hw => ?_)
      obtain ⟨σ_6, e_6, h⟩ := nm_some h
      rw [← e_6] at hw
      refine lv_aload_n hx hb dX0_add_38 rfl (lv_at hl 0 rfl) ?_
      refine gx_getr (j := 155) S hK hw t_152 cl_1 2 (by decide) rfl mw_338 rfl dX0_add_39 ?_
      refine lv_aload_n hx hb dX0_add_42 rfl (lv_at hl 0 rfl) ?_
      refine gx_get S hK hw t_152 cl_1 3 (by decide) rfl mw_339 rfl dX0_add_43 ?_
      refine lv_iload_n hx hb dX0_add_46 rfl (lv_at hl 3 rfl) ?_
      obtain ⟨j_7, hj_7, hi_7, h⟩ := ck_some h
      refine gx_iast S hK gx_ok hw t_155 j_7 hj_7 hi_7 dX0_add_47 (fun H locs hw => ?_)
      obtain ⟨σ_8, e_8, h⟩ := nm_some h
      rw [← e_8] at hw
      refine lv_aload_n hx hb dX0_add_48 rfl (lv_at hl 0 rfl) ?_
      refine lv_dup hx hb dX0_add_49 rfl ?_
      refine gx_get S hK hw t_152 cl_1 3 (by decide) rfl mw_339 rfl dX0_add_50 ?_
      refine lv_iconst (v := 1) hx hb dX0_add_53 (by decide) ?_
      refine lv_iadd hx hb dX0_add_54 ?_
      refine gx_put S hK gx_ok hw t_152 cl_1 3 (by decide) rfl mw_339 rfl rfl (ty := .int) (v := (σ_8 152 3) + 1) (by decide +kernel) rfl rfl dX0_add_55 (fun H locs hw => ?_)
      obtain ⟨σ_9, e_9, h⟩ := nm_some h
      rw [← e_9] at hw
      refine lv_iconst (v := 1) hx hb dX0_add_58 (by decide) ?_
      obtain ⟨rfl, rfl, rfl⟩ := sm_inj h
      exact gx_ri (post := gq_p 1 σ_9 τ) (v := 1) S hr hlk hw rfl dX0_add_59 ⟨rfl, rfl, rfl⟩
    · rw [if_neg c_2] at h
      refine lv_iconst (v := 0) hx hb dX0_add_16 (by decide) ?_
      obtain ⟨rfl, rfl, rfl⟩ := sm_inj h
      exact gx_ri (post := gq_p 0 σ τ) (v := 0) S hr hlk hw rfl dX0_add_17 ⟨rfl, rfl, rfl⟩
set_option maxHeartbeats 4000000 in
set_option maxRecDepth 100000 in
theorem c_X0_add (l : Launch) {E : gE} (N : Nat) (σ : gI) (τ : gJ) (x1 : Int32) (x2 : Int32) (x3 : Int32) {r : Int32} {σ1 : gI} {τ1 : gJ} (h : B_X0_add_0 N σ τ x1 x2 x3 = some (r, σ1, τ1)) : gx_Mi l yX0_add cX0_add 4 (some .boolean) 0 gx_tb E σ τ [.ref (E.2.2 + 152), .int x1, .int x2, .int x3] (gq_p r σ1 τ1) := by
  refine gx_bi (by decide +kernel) (Nat.le_of_ble_eq_true rfl) ?_
  intro P9 e9 s m9 below meth C9 S hr hlk hK hw ls hl
  have hl : lv_has ls 4 [(0, .ref (E.2.2 + 152)), (1, .int x1), (2, .int x2), (3, .int x3)] := hl
  exact b_X0_add_0 l S hr hlk hK N σ τ x1 x2 x3 h hw hl
/-! X0_has -/
def B_X0_has_0 (N : Nat) (σ : gI) (τ : gJ) (x1 : Int32) : Option (Int32 × gI × gJ) := if x1 < 0 then (some (0, σ, τ)) else (if σ 152 3 ≤ x1 then (some (0, σ, τ)) else (if 10 ≤ x1 then (some (0, σ, τ)) else (some (1, σ, τ))))
set_option maxHeartbeats 4000000 in
set_option maxRecDepth 100000 in
theorem b_X0_has_0 (l : Launch) (S : CallFix P9 m9 C9 cX0_has 2 s av.toArray gx_G RX0) (hr : meth.sig.returnType = (some .boolean)) (hlk : meth.locks = false) (hK : gx_K E s) (N : Nat) (σ : gI) (τ : gJ) (x1 : Int32) {r : Int32} {σ1 : gI} {τ1 : gJ} (h : B_X0_has_0 N σ τ x1 = some (r, σ1, τ1)) {H : Heap} {locs : List Loc} {ls : Array Slot} (hw : gx_W gx_tb gx_tb.length E s σ τ H locs) (hl : lv_has ls 2 [(0, .ref (E.2.2 + 152)), (1, .int x1)]) : W P9 l e9 (gx_rm 0) s m9 av.toArray below meth C9 H locs 0 0 (gq_Qi below av s E r σ1 τ1) (F0 m9 0 ls []) := by
  have hx := S.1
  have hb := S.2.1
  unfold B_X0_has_0 at h
  refine lv_iload_n hx hb dX0_has_0 rfl (lv_at hl 1 rfl) ?_
  refine lv_if_lt (tgt := 22) hx hb dX0_has_1 (by decide) (fun c_1 => ?_) (fun c_1 => ?_)
  · rw [if_pos c_1] at h
    refine lv_iconst (v := 0) hx hb dX0_has_22 (by decide) ?_
    obtain ⟨rfl, rfl, rfl⟩ := sm_inj h
    exact gx_ri (post := gq_p 0 σ τ) (v := 0) S hr hlk hw rfl dX0_has_23 ⟨rfl, rfl, rfl⟩
  · rw [if_neg c_1] at h
    refine lv_iload_n hx hb dX0_has_4 rfl (lv_at hl 1 rfl) ?_
    refine lv_aload_n hx hb dX0_has_5 rfl (lv_at hl 0 rfl) ?_
    refine gx_get S hK hw t_152 cl_1 3 (by decide) rfl mw_339 rfl dX0_has_6 ?_
    refine lv_icmp_ge (tgt := 22) hx hb dX0_has_9 (by decide) (fun c_2 => ?_) (fun c_2 => ?_)
    · rw [if_pos c_2] at h
      refine lv_iconst (v := 0) hx hb dX0_has_22 (by decide) ?_
      obtain ⟨rfl, rfl, rfl⟩ := sm_inj h
      exact gx_ri (post := gq_p 0 σ τ) (v := 0) S hr hlk hw rfl dX0_has_23 ⟨rfl, rfl, rfl⟩
    · rw [if_neg c_2] at h
      refine lv_iload_n hx hb dX0_has_12 rfl (lv_at hl 1 rfl) ?_
      refine lv_bipush (v := 10) hx hb dX0_has_13 (by decide) ?_
      refine lv_icmp_ge (tgt := 22) hx hb dX0_has_15 (by decide) (fun c_3 => ?_) (fun c_3 => ?_)
      · rw [if_pos c_3] at h
        refine lv_iconst (v := 0) hx hb dX0_has_22 (by decide) ?_
        obtain ⟨rfl, rfl, rfl⟩ := sm_inj h
        exact gx_ri (post := gq_p 0 σ τ) (v := 0) S hr hlk hw rfl dX0_has_23 ⟨rfl, rfl, rfl⟩
      · rw [if_neg c_3] at h
        refine lv_iconst (v := 1) hx hb dX0_has_18 (by decide) ?_
        refine lv_goto (tgt := 23) hx hb dX0_has_19 (by decide) ?_
        obtain ⟨rfl, rfl, rfl⟩ := sm_inj h
        exact gx_ri (post := gq_p 1 σ τ) (v := 1) S hr hlk hw rfl dX0_has_23 ⟨rfl, rfl, rfl⟩
set_option maxHeartbeats 4000000 in
set_option maxRecDepth 100000 in
theorem c_X0_has (l : Launch) {E : gE} (N : Nat) (σ : gI) (τ : gJ) (x1 : Int32) {r : Int32} {σ1 : gI} {τ1 : gJ} (h : B_X0_has_0 N σ τ x1 = some (r, σ1, τ1)) : gx_Mi l yX0_has cX0_has 2 (some .boolean) 0 gx_tb E σ τ [.ref (E.2.2 + 152), .int x1] (gq_p r σ1 τ1) := by
  refine gx_bi (by decide +kernel) (Nat.le_of_ble_eq_true rfl) ?_
  intro P9 e9 s m9 below meth C9 S hr hlk hK hw ls hl
  have hl : lv_has ls 2 [(0, .ref (E.2.2 + 152)), (1, .int x1)] := hl
  exact b_X0_has_0 l S hr hlk hK N σ τ x1 h hw hl
/-! X0_endOf -/
def B_X0_endOf_0 (N : Nat) (σ : gI) (τ : gJ) (x1 : Int32) : Option (Int32 × gI × gJ) := bd (B_X0_has_0 N σ τ x1) fun r_1 σ_1 τ_1 => if r_1 = 0 then (some ((-1), σ_1, τ_1)) else (ck x1 10 fun j_3 => some (σ_1 155 j_3, σ_1, τ_1))
set_option maxHeartbeats 4000000 in
set_option maxRecDepth 100000 in
theorem b_X0_endOf_0 (l : Launch) (S : CallFix P9 m9 C9 cX0_endOf 2 s av.toArray gx_G RX0) (hr : meth.sig.returnType = (some .int)) (hlk : meth.locks = false) (hK : gx_K E s) (N : Nat) (σ : gI) (τ : gJ) (x1 : Int32) {r : Int32} {σ1 : gI} {τ1 : gJ} (h : B_X0_endOf_0 N σ τ x1 = some (r, σ1, τ1)) {H : Heap} {locs : List Loc} {ls : Array Slot} (hw : gx_W gx_tb gx_tb.length E s σ τ H locs) (hl : lv_has ls 2 [(0, .ref (E.2.2 + 152)), (1, .int x1)]) : W P9 l e9 (gx_rm 1) s m9 av.toArray below meth C9 H locs 0 0 (gq_Qi below av s E r σ1 τ1) (F0 m9 0 ls []) := by
  have hx := S.1
  have hb := S.2.1
  unfold B_X0_endOf_0 at h
  refine lv_aload_n hx hb dX0_endOf_0 rfl (lv_at hl 0 rfl) ?_
  refine lv_iload_n hx hb dX0_endOf_1 rfl (lv_at hl 1 rfl) ?_
  obtain ⟨r_1, σ_1, τ_1, q_1, h⟩ := bd_some h
  refine gx_cVi (As := [.int x1]) (rest := []) S hK gx_ok hw (c_X0_has l (E := E) N σ τ x1 q_1) cw_X0_25 t_152 cl_1 ⟨Nat.le_of_ble_eq_true rfl, Nat.le_of_ble_eq_true rfl⟩ rfl hl.1 rfl (Nat.le_of_ble_eq_true rfl) ⟨Nat.le_of_ble_eq_true rfl, Nat.le_of_ble_eq_true rfl⟩ dX0_endOf_2 (fun r9 σ9 τ9 H locs hp hw => ?_)
  obtain ⟨rfl, rfl, rfl⟩ := hp
  refine lv_if_eq (tgt := 17) hx hb dX0_endOf_5 (by decide) (fun c_2 => ?_) (fun c_2 => ?_)
  · rw [if_pos c_2] at h
    refine lv_iconst (v := (-1)) hx hb dX0_endOf_17 (by decide) ?_
    obtain ⟨rfl, rfl, rfl⟩ := sm_inj h
    exact gx_ri (post := gq_p (-1) σ_1 τ_1) (v := (-1)) S hr hlk hw rfl dX0_endOf_18 ⟨rfl, rfl, rfl⟩
  · rw [if_neg c_2] at h
    refine lv_aload_n hx hb dX0_endOf_8 rfl (lv_at hl 0 rfl) ?_
    refine gx_getr (j := 155) S hK hw t_152 cl_1 2 (by decide) rfl mw_338 rfl dX0_endOf_9 ?_
    refine lv_iload_n hx hb dX0_endOf_12 rfl (lv_at hl 1 rfl) ?_
    obtain ⟨j_3, hj_3, hi_3, h⟩ := ck_some h
    refine gx_iald S hK hw t_155 j_3 hj_3 hi_3 dX0_endOf_13 ?_
    refine lv_goto (tgt := 18) hx hb dX0_endOf_14 (by decide) ?_
    obtain ⟨rfl, rfl, rfl⟩ := sm_inj h
    exact gx_ri (post := gq_p (σ_1 155 j_3) σ_1 τ_1) (v := σ_1 155 j_3) S hr hlk hw rfl dX0_endOf_18 ⟨rfl, rfl, rfl⟩
set_option maxHeartbeats 4000000 in
set_option maxRecDepth 100000 in
theorem c_X0_endOf (l : Launch) {E : gE} (N : Nat) (σ : gI) (τ : gJ) (x1 : Int32) {r : Int32} {σ1 : gI} {τ1 : gJ} (h : B_X0_endOf_0 N σ τ x1 = some (r, σ1, τ1)) : gx_Mi l yX0_endOf cX0_endOf 2 (some .int) 1 gx_tb E σ τ [.ref (E.2.2 + 152), .int x1] (gq_p r σ1 τ1) := by
  refine gx_bi (by decide +kernel) (Nat.le_of_ble_eq_true rfl) ?_
  intro P9 e9 s m9 below meth C9 S hr hlk hK hw ls hl
  have hl : lv_has ls 2 [(0, .ref (E.2.2 + 152)), (1, .int x1)] := hl
  exact b_X0_endOf_0 l S hr hlk hK N σ τ x1 h hw hl
/-! X0_minuteOf -/
def B_X0_minuteOf_0 (N : Nat) (σ : gI) (τ : gJ) (x1 : Int32) : Option (Int32 × gI × gJ) := bd (B_X0_has_0 N σ τ x1) fun r_1 σ_1 τ_1 => if r_1 = 0 then (some (0, σ_1, τ_1)) else (ck x1 10 fun j_3 => some (σ_1 154 j_3, σ_1, τ_1))
set_option maxHeartbeats 4000000 in
set_option maxRecDepth 100000 in
theorem b_X0_minuteOf_0 (l : Launch) (S : CallFix P9 m9 C9 cX0_minuteOf 2 s av.toArray gx_G RX0) (hr : meth.sig.returnType = (some .int)) (hlk : meth.locks = false) (hK : gx_K E s) (N : Nat) (σ : gI) (τ : gJ) (x1 : Int32) {r : Int32} {σ1 : gI} {τ1 : gJ} (h : B_X0_minuteOf_0 N σ τ x1 = some (r, σ1, τ1)) {H : Heap} {locs : List Loc} {ls : Array Slot} (hw : gx_W gx_tb gx_tb.length E s σ τ H locs) (hl : lv_has ls 2 [(0, .ref (E.2.2 + 152)), (1, .int x1)]) : W P9 l e9 (gx_rm 1) s m9 av.toArray below meth C9 H locs 0 0 (gq_Qi below av s E r σ1 τ1) (F0 m9 0 ls []) := by
  have hx := S.1
  have hb := S.2.1
  unfold B_X0_minuteOf_0 at h
  refine lv_aload_n hx hb dX0_minuteOf_0 rfl (lv_at hl 0 rfl) ?_
  refine lv_iload_n hx hb dX0_minuteOf_1 rfl (lv_at hl 1 rfl) ?_
  obtain ⟨r_1, σ_1, τ_1, q_1, h⟩ := bd_some h
  refine gx_cVi (As := [.int x1]) (rest := []) S hK gx_ok hw (c_X0_has l (E := E) N σ τ x1 q_1) cw_X0_25 t_152 cl_1 ⟨Nat.le_of_ble_eq_true rfl, Nat.le_of_ble_eq_true rfl⟩ rfl hl.1 rfl (Nat.le_of_ble_eq_true rfl) ⟨Nat.le_of_ble_eq_true rfl, Nat.le_of_ble_eq_true rfl⟩ dX0_minuteOf_2 (fun r9 σ9 τ9 H locs hp hw => ?_)
  obtain ⟨rfl, rfl, rfl⟩ := hp
  refine lv_if_eq (tgt := 17) hx hb dX0_minuteOf_5 (by decide) (fun c_2 => ?_) (fun c_2 => ?_)
  · rw [if_pos c_2] at h
    refine lv_iconst (v := 0) hx hb dX0_minuteOf_17 (by decide) ?_
    obtain ⟨rfl, rfl, rfl⟩ := sm_inj h
    exact gx_ri (post := gq_p 0 σ_1 τ_1) (v := 0) S hr hlk hw rfl dX0_minuteOf_18 ⟨rfl, rfl, rfl⟩
  · rw [if_neg c_2] at h
    refine lv_aload_n hx hb dX0_minuteOf_8 rfl (lv_at hl 0 rfl) ?_
    refine gx_getr (j := 154) S hK hw t_152 cl_1 1 (by decide) rfl mw_337 rfl dX0_minuteOf_9 ?_
    refine lv_iload_n hx hb dX0_minuteOf_12 rfl (lv_at hl 1 rfl) ?_
    obtain ⟨j_3, hj_3, hi_3, h⟩ := ck_some h
    refine gx_iald S hK hw t_154 j_3 hj_3 hi_3 dX0_minuteOf_13 ?_
    refine lv_goto (tgt := 18) hx hb dX0_minuteOf_14 (by decide) ?_
    obtain ⟨rfl, rfl, rfl⟩ := sm_inj h
    exact gx_ri (post := gq_p (σ_1 154 j_3) σ_1 τ_1) (v := σ_1 154 j_3) S hr hlk hw rfl dX0_minuteOf_18 ⟨rfl, rfl, rfl⟩
set_option maxHeartbeats 4000000 in
set_option maxRecDepth 100000 in
theorem c_X0_minuteOf (l : Launch) {E : gE} (N : Nat) (σ : gI) (τ : gJ) (x1 : Int32) {r : Int32} {σ1 : gI} {τ1 : gJ} (h : B_X0_minuteOf_0 N σ τ x1 = some (r, σ1, τ1)) : gx_Mi l yX0_minuteOf cX0_minuteOf 2 (some .int) 1 gx_tb E σ τ [.ref (E.2.2 + 152), .int x1] (gq_p r σ1 τ1) := by
  refine gx_bi (by decide +kernel) (Nat.le_of_ble_eq_true rfl) ?_
  intro P9 e9 s m9 below meth C9 S hr hlk hK hw ls hl
  have hl : lv_has ls 2 [(0, .ref (E.2.2 + 152)), (1, .int x1)] := hl
  exact b_X0_minuteOf_0 l S hr hlk hK N σ τ x1 h hw hl
/-! X0_spotOf -/
def B_X0_spotOf_0 (N : Nat) (σ : gI) (τ : gJ) (x1 : Int32) : Option (Int32 × gI × gJ) := bd (B_X0_has_0 N σ τ x1) fun r_1 σ_1 τ_1 => if r_1 = 0 then (some (0, σ_1, τ_1)) else (ck x1 10 fun j_3 => some (σ_1 153 j_3, σ_1, τ_1))
set_option maxHeartbeats 4000000 in
set_option maxRecDepth 100000 in
theorem b_X0_spotOf_0 (l : Launch) (S : CallFix P9 m9 C9 cX0_spotOf 2 s av.toArray gx_G RX0) (hr : meth.sig.returnType = (some .int)) (hlk : meth.locks = false) (hK : gx_K E s) (N : Nat) (σ : gI) (τ : gJ) (x1 : Int32) {r : Int32} {σ1 : gI} {τ1 : gJ} (h : B_X0_spotOf_0 N σ τ x1 = some (r, σ1, τ1)) {H : Heap} {locs : List Loc} {ls : Array Slot} (hw : gx_W gx_tb gx_tb.length E s σ τ H locs) (hl : lv_has ls 2 [(0, .ref (E.2.2 + 152)), (1, .int x1)]) : W P9 l e9 (gx_rm 1) s m9 av.toArray below meth C9 H locs 0 0 (gq_Qi below av s E r σ1 τ1) (F0 m9 0 ls []) := by
  have hx := S.1
  have hb := S.2.1
  unfold B_X0_spotOf_0 at h
  refine lv_aload_n hx hb dX0_spotOf_0 rfl (lv_at hl 0 rfl) ?_
  refine lv_iload_n hx hb dX0_spotOf_1 rfl (lv_at hl 1 rfl) ?_
  obtain ⟨r_1, σ_1, τ_1, q_1, h⟩ := bd_some h
  refine gx_cVi (As := [.int x1]) (rest := []) S hK gx_ok hw (c_X0_has l (E := E) N σ τ x1 q_1) cw_X0_25 t_152 cl_1 ⟨Nat.le_of_ble_eq_true rfl, Nat.le_of_ble_eq_true rfl⟩ rfl hl.1 rfl (Nat.le_of_ble_eq_true rfl) ⟨Nat.le_of_ble_eq_true rfl, Nat.le_of_ble_eq_true rfl⟩ dX0_spotOf_2 (fun r9 σ9 τ9 H locs hp hw => ?_)
  obtain ⟨rfl, rfl, rfl⟩ := hp
  refine lv_if_eq (tgt := 17) hx hb dX0_spotOf_5 (by decide) (fun c_2 => ?_) (fun c_2 => ?_)
  · rw [if_pos c_2] at h
    refine lv_iconst (v := 0) hx hb dX0_spotOf_17 (by decide) ?_
    obtain ⟨rfl, rfl, rfl⟩ := sm_inj h
    exact gx_ri (post := gq_p 0 σ_1 τ_1) (v := 0) S hr hlk hw rfl dX0_spotOf_18 ⟨rfl, rfl, rfl⟩
  · rw [if_neg c_2] at h
    refine lv_aload_n hx hb dX0_spotOf_8 rfl (lv_at hl 0 rfl) ?_
    refine gx_getr (j := 153) S hK hw t_152 cl_1 0 (by decide) rfl mw_336 rfl dX0_spotOf_9 ?_
    refine lv_iload_n hx hb dX0_spotOf_12 rfl (lv_at hl 1 rfl) ?_
    obtain ⟨j_3, hj_3, hi_3, h⟩ := ck_some h
    refine gx_iald S hK hw t_153 j_3 hj_3 hi_3 dX0_spotOf_13 ?_
    refine lv_goto (tgt := 18) hx hb dX0_spotOf_14 (by decide) ?_
    obtain ⟨rfl, rfl, rfl⟩ := sm_inj h
    exact gx_ri (post := gq_p (σ_1 153 j_3) σ_1 τ_1) (v := σ_1 153 j_3) S hr hlk hw rfl dX0_spotOf_18 ⟨rfl, rfl, rfl⟩
set_option maxHeartbeats 4000000 in
set_option maxRecDepth 100000 in
theorem c_X0_spotOf (l : Launch) {E : gE} (N : Nat) (σ : gI) (τ : gJ) (x1 : Int32) {r : Int32} {σ1 : gI} {τ1 : gJ} (h : B_X0_spotOf_0 N σ τ x1 = some (r, σ1, τ1)) : gx_Mi l yX0_spotOf cX0_spotOf 2 (some .int) 1 gx_tb E σ τ [.ref (E.2.2 + 152), .int x1] (gq_p r σ1 τ1) := by
  refine gx_bi (by decide +kernel) (Nat.le_of_ble_eq_true rfl) ?_
  intro P9 e9 s m9 below meth C9 S hr hlk hK hw ls hl
  have hl : lv_has ls 2 [(0, .ref (E.2.2 + 152)), (1, .int x1)] := hl
  exact b_X0_spotOf_0 l S hr hlk hK N σ τ x1 h hw hl
/-! X10_in -/
def B_X10_in_0 (N : Nat) (σ : gI) (τ : gJ) (x1 : Int32) : Option (Int32 × gI × gJ) := if σ 15 1 ≤ 0 then (some (1, σ, τ)) else (if 40 < σ 15 1 then (some (1, σ, τ)) else (if 0 ≤ x1 then (dz (σ 15 1) <| ck ((x1 / 10) - (x1 / 10) / (σ 15 1) * (σ 15 1)) 40 fun j_5 => some (σ 16 j_5, σ, τ)) else (some (1, σ, τ))))
set_option maxHeartbeats 4000000 in
set_option maxRecDepth 100000 in
theorem b_X10_in_0 (l : Launch) (S : CallFix P9 m9 C9 cX10_in 2 s av.toArray gx_G RX10) (hr : meth.sig.returnType = (some .int)) (hlk : meth.locks = false) (hK : gx_K E s) (N : Nat) (σ : gI) (τ : gJ) (x1 : Int32) {r : Int32} {σ1 : gI} {τ1 : gJ} (h : B_X10_in_0 N σ τ x1 = some (r, σ1, τ1)) {H : Heap} {locs : List Loc} {ls : Array Slot} (hw : gx_W gx_tb gx_tb.length E s σ τ H locs) (hl : lv_has ls 2 [(0, .ref (E.2.2 + 15)), (1, .int x1)]) : W P9 l e9 (gx_rm 0) s m9 av.toArray below meth C9 H locs 0 0 (gq_Qi below av s E r σ1 τ1) (F0 m9 0 ls []) := by
  have hx := S.1
  have hb := S.2.1
  unfold B_X10_in_0 at h
  refine lv_aload_n hx hb dX10_in_0 rfl (lv_at hl 0 rfl) ?_
  refine gx_get S hK hw t_15 cl_11 1 (by decide) rfl mw_188 rfl dX10_in_1 ?_
  refine lv_if_le (tgt := 20) hx hb dX10_in_4 (by decide) (fun c_1 => ?_) (fun c_1 => ?_)
  · rw [if_pos c_1] at h
    refine lv_iconst (v := 1) hx hb dX10_in_20 (by decide) ?_
    obtain ⟨rfl, rfl, rfl⟩ := sm_inj h
    exact gx_ri (post := gq_p 1 σ τ) (v := 1) S hr hlk hw rfl dX10_in_21 ⟨rfl, rfl, rfl⟩
  · rw [if_neg c_1] at h
    refine lv_aload_n hx hb dX10_in_7 rfl (lv_at hl 0 rfl) ?_
    refine gx_get S hK hw t_15 cl_11 1 (by decide) rfl mw_188 rfl dX10_in_8 ?_
    refine lv_bipush (v := 40) hx hb dX10_in_11 (by decide) ?_
    refine lv_icmp_gt (tgt := 20) hx hb dX10_in_13 (by decide) (fun c_2 => ?_) (fun c_2 => ?_)
    · rw [if_pos c_2] at h
      refine lv_iconst (v := 1) hx hb dX10_in_20 (by decide) ?_
      obtain ⟨rfl, rfl, rfl⟩ := sm_inj h
      exact gx_ri (post := gq_p 1 σ τ) (v := 1) S hr hlk hw rfl dX10_in_21 ⟨rfl, rfl, rfl⟩
    · rw [if_neg c_2] at h
      refine lv_iload_n hx hb dX10_in_16 rfl (lv_at hl 1 rfl) ?_
      refine lv_if_ge (tgt := 22) hx hb dX10_in_17 (by decide) (fun c_3 => ?_) (fun c_3 => ?_)
      · rw [if_pos c_3] at h
        refine lv_aload_n hx hb dX10_in_22 rfl (lv_at hl 0 rfl) ?_
        refine gx_getr (j := 16) S hK hw t_15 cl_11 0 (by decide) rfl mw_187 rfl dX10_in_23 ?_
        refine lv_iload_n hx hb dX10_in_26 rfl (lv_at hl 1 rfl) ?_
        refine lv_bipush (v := 10) hx hb dX10_in_27 (by decide) ?_
        refine lv_idiv hx hb dX10_in_29 (by decide) ?_
        refine lv_aload_n hx hb dX10_in_30 rfl (lv_at hl 0 rfl) ?_
        refine gx_get S hK hw t_15 cl_11 1 (by decide) rfl mw_188 rfl dX10_in_31 ?_
        obtain ⟨hz_4, h⟩ := dz_some h
        refine lv_irem hx hb dX10_in_34 hz_4 ?_
        obtain ⟨j_5, hj_5, hi_5, h⟩ := ck_some h
        refine gx_iald S hK hw t_16 j_5 hj_5 hi_5 dX10_in_35 ?_
        obtain ⟨rfl, rfl, rfl⟩ := sm_inj h
        exact gx_ri (post := gq_p (σ 16 j_5) σ τ) (v := σ 16 j_5) S hr hlk hw rfl dX10_in_36 ⟨rfl, rfl, rfl⟩
      · rw [if_neg c_3] at h
        refine lv_iconst (v := 1) hx hb dX10_in_20 (by decide) ?_
        obtain ⟨rfl, rfl, rfl⟩ := sm_inj h
        exact gx_ri (post := gq_p 1 σ τ) (v := 1) S hr hlk hw rfl dX10_in_21 ⟨rfl, rfl, rfl⟩
set_option maxHeartbeats 4000000 in
set_option maxRecDepth 100000 in
theorem c_X10_in (l : Launch) {E : gE} (N : Nat) (σ : gI) (τ : gJ) (x1 : Int32) {r : Int32} {σ1 : gI} {τ1 : gJ} (h : B_X10_in_0 N σ τ x1 = some (r, σ1, τ1)) : gx_Mi l yX10_in cX10_in 2 (some .int) 0 gx_tb E σ τ [.ref (E.2.2 + 15), .int x1] (gq_p r σ1 τ1) := by
  refine gx_bi (by decide +kernel) (Nat.le_of_ble_eq_true rfl) ?_
  intro P9 e9 s m9 below meth C9 S hr hlk hK hw ls hl
  have hl : lv_has ls 2 [(0, .ref (E.2.2 + 15)), (1, .int x1)] := hl
  exact b_X10_in_0 l S hr hlk hK N σ τ x1 h hw hl
/-! X7_showAtMost -/
def B_X7_showAtMost_0 (N : Nat) (σ : gI) (τ : gJ) (x1 : Int32) : Option (Unit × gI × gJ) := nm (up2 σ 1 1 (imin x1 (σ 1 2))) fun σ_1 => some ((), σ_1, τ)
set_option maxHeartbeats 4000000 in
set_option maxRecDepth 100000 in
theorem b_X7_showAtMost_0 (l : Launch) (S : CallFix P9 m9 C9 cX7_showAtMost 2 s av.toArray gx_G RX7) (hr : meth.sig.returnType = none) (hlk : meth.locks = false) (hK : gx_K E s) (N : Nat) (σ : gI) (τ : gJ) (x1 : Int32) {r : Unit} {σ1 : gI} {τ1 : gJ} (h : B_X7_showAtMost_0 N σ τ x1 = some (r, σ1, τ1)) {H : Heap} {locs : List Loc} {ls : Array Slot} (hw : gx_W gx_tb gx_tb.length E s σ τ H locs) (hl : lv_has ls 2 [(0, .ref (E.2.2 + 1)), (1, .int x1)]) : W P9 l e9 (gx_rm 1) s m9 av.toArray below meth C9 H locs 0 0 (gq_Qv below av s E σ1 τ1) (F0 m9 0 ls []) := by
  have hx := S.1
  have hb := S.2.1
  unfold B_X7_showAtMost_0 at h
  refine lv_aload_n hx hb dX7_showAtMost_0 rfl (lv_at hl 0 rfl) ?_
  refine lv_iload_n hx hb dX7_showAtMost_1 rfl (lv_at hl 1 rfl) ?_
  refine lv_aload_n hx hb dX7_showAtMost_2 rfl (lv_at hl 0 rfl) ?_
  refine gx_get S hK hw t_1 cl_8 2 (by decide) rfl mw_131 rfl dX7_showAtMost_3 ?_
  refine gx_min (w := imin x1 (σ 1 2)) S hl.1 mw_528 mw_529 mw_102 mw_530 ⟨Nat.le_of_ble_eq_true rfl, Nat.le_of_ble_eq_true rfl⟩ ⟨Nat.le_of_ble_eq_true rfl, Nat.le_of_ble_eq_true rfl⟩ dX7_showAtMost_6 rfl ?_
  refine gx_put S hK gx_ok hw t_1 cl_8 1 (by decide) rfl mw_130 rfl rfl (ty := .int) (v := imin x1 (σ 1 2)) (by decide +kernel) rfl rfl dX7_showAtMost_9 (fun H locs hw => ?_)
  obtain ⟨σ_1, e_1, h⟩ := nm_some h
  rw [← e_1] at hw
  obtain ⟨-, rfl, rfl⟩ := sm_inj h
  exact gx_rv (post := gq_v σ_1 τ) S hr hlk hw dX7_showAtMost_12 ⟨rfl, rfl⟩
set_option maxHeartbeats 4000000 in
set_option maxRecDepth 100000 in
theorem c_X7_showAtMost (l : Launch) {E : gE} (N : Nat) (σ : gI) (τ : gJ) (x1 : Int32) {r : Unit} {σ1 : gI} {τ1 : gJ} (h : B_X7_showAtMost_0 N σ τ x1 = some (r, σ1, τ1)) : gx_Mv l yX7_showAtMost cX7_showAtMost 2 none 1 gx_tb E σ τ [.ref (E.2.2 + 1), .int x1] (gq_v σ1 τ1) := by
  refine gx_bv (by decide +kernel) (Nat.le_of_ble_eq_true rfl) ?_
  intro P9 e9 s m9 below meth C9 S hr hlk hK hw ls hl
  have hl : lv_has ls 2 [(0, .ref (E.2.2 + 1)), (1, .int x1)] := hl
  exact b_X7_showAtMost_0 l S hr hlk hK N σ τ x1 h hw hl
/-! X7_isOver -/
def B_X7_isOver_0 (N : Nat) (σ : gI) (τ : gJ) (x1 : Int32) : Option (Int32 × gI × gJ) := if x1 < σ 1 2 then (some (0, σ, τ)) else (some (1, σ, τ))
set_option maxHeartbeats 4000000 in
set_option maxRecDepth 100000 in
theorem b_X7_isOver_0 (l : Launch) (S : CallFix P9 m9 C9 cX7_isOver 2 s av.toArray gx_G RX7) (hr : meth.sig.returnType = (some .boolean)) (hlk : meth.locks = false) (hK : gx_K E s) (N : Nat) (σ : gI) (τ : gJ) (x1 : Int32) {r : Int32} {σ1 : gI} {τ1 : gJ} (h : B_X7_isOver_0 N σ τ x1 = some (r, σ1, τ1)) {H : Heap} {locs : List Loc} {ls : Array Slot} (hw : gx_W gx_tb gx_tb.length E s σ τ H locs) (hl : lv_has ls 2 [(0, .ref (E.2.2 + 1)), (1, .int x1)]) : W P9 l e9 (gx_rm 0) s m9 av.toArray below meth C9 H locs 0 0 (gq_Qi below av s E r σ1 τ1) (F0 m9 0 ls []) := by
  have hx := S.1
  have hb := S.2.1
  unfold B_X7_isOver_0 at h
  refine lv_iload_n hx hb dX7_isOver_0 rfl (lv_at hl 1 rfl) ?_
  refine lv_aload_n hx hb dX7_isOver_1 rfl (lv_at hl 0 rfl) ?_
  refine gx_get S hK hw t_1 cl_8 2 (by decide) rfl mw_131 rfl dX7_isOver_2 ?_
  refine lv_icmp_lt (tgt := 12) hx hb dX7_isOver_5 (by decide) (fun c_1 => ?_) (fun c_1 => ?_)
  · rw [if_pos c_1] at h
    refine lv_iconst (v := 0) hx hb dX7_isOver_12 (by decide) ?_
    obtain ⟨rfl, rfl, rfl⟩ := sm_inj h
    exact gx_ri (post := gq_p 0 σ τ) (v := 0) S hr hlk hw rfl dX7_isOver_13 ⟨rfl, rfl, rfl⟩
  · rw [if_neg c_1] at h
    refine lv_iconst (v := 1) hx hb dX7_isOver_8 (by decide) ?_
    refine lv_goto (tgt := 13) hx hb dX7_isOver_9 (by decide) ?_
    obtain ⟨rfl, rfl, rfl⟩ := sm_inj h
    exact gx_ri (post := gq_p 1 σ τ) (v := 1) S hr hlk hw rfl dX7_isOver_13 ⟨rfl, rfl, rfl⟩
set_option maxHeartbeats 4000000 in
set_option maxRecDepth 100000 in
theorem c_X7_isOver (l : Launch) {E : gE} (N : Nat) (σ : gI) (τ : gJ) (x1 : Int32) {r : Int32} {σ1 : gI} {τ1 : gJ} (h : B_X7_isOver_0 N σ τ x1 = some (r, σ1, τ1)) : gx_Mi l yX7_isOver cX7_isOver 2 (some .boolean) 0 gx_tb E σ τ [.ref (E.2.2 + 1), .int x1] (gq_p r σ1 τ1) := by
  refine gx_bi (by decide +kernel) (Nat.le_of_ble_eq_true rfl) ?_
  intro P9 e9 s m9 below meth C9 S hr hlk hK hw ls hl
  have hl : lv_has ls 2 [(0, .ref (E.2.2 + 1)), (1, .int x1)] := hl
  exact b_X7_isOver_0 l S hr hlk hK N σ τ x1 h hw hl
/-! X7_look -/
def B_X7_look_0 (N : Nat) (σ : gI) (τ : gJ) (x1 : Int32) : Option (Int32 × gI × gJ) := if x1 < 0 then (some ((-1), σ, τ)) else (if σ 1 1 ≤ x1 then (some ((-1), σ, τ)) else (if 80 ≤ x1 then (some ((-1), σ, τ)) else (ck x1 80 fun j_4 => some (σ 2 j_4, σ, τ))))
set_option maxHeartbeats 4000000 in
set_option maxRecDepth 100000 in
theorem b_X7_look_0 (l : Launch) (S : CallFix P9 m9 C9 cX7_look 2 s av.toArray gx_G RX7) (hr : meth.sig.returnType = (some .int)) (hlk : meth.locks = false) (hK : gx_K E s) (N : Nat) (σ : gI) (τ : gJ) (x1 : Int32) {r : Int32} {σ1 : gI} {τ1 : gJ} (h : B_X7_look_0 N σ τ x1 = some (r, σ1, τ1)) {H : Heap} {locs : List Loc} {ls : Array Slot} (hw : gx_W gx_tb gx_tb.length E s σ τ H locs) (hl : lv_has ls 2 [(0, .ref (E.2.2 + 1)), (1, .int x1)]) : W P9 l e9 (gx_rm 0) s m9 av.toArray below meth C9 H locs 0 0 (gq_Qi below av s E r σ1 τ1) (F0 m9 0 ls []) := by
  have hx := S.1
  have hb := S.2.1
  unfold B_X7_look_0 at h
  refine lv_iload_n hx hb dX7_look_0 rfl (lv_at hl 1 rfl) ?_
  refine lv_if_lt (tgt := 27) hx hb dX7_look_1 (by decide) (fun c_1 => ?_) (fun c_1 => ?_)
  · rw [if_pos c_1] at h
    refine lv_iconst (v := (-1)) hx hb dX7_look_27 (by decide) ?_
    obtain ⟨rfl, rfl, rfl⟩ := sm_inj h
    exact gx_ri (post := gq_p (-1) σ τ) (v := (-1)) S hr hlk hw rfl dX7_look_28 ⟨rfl, rfl, rfl⟩
  · rw [if_neg c_1] at h
    refine lv_iload_n hx hb dX7_look_4 rfl (lv_at hl 1 rfl) ?_
    refine lv_aload_n hx hb dX7_look_5 rfl (lv_at hl 0 rfl) ?_
    refine gx_get S hK hw t_1 cl_8 1 (by decide) rfl mw_130 rfl dX7_look_6 ?_
    refine lv_icmp_ge (tgt := 27) hx hb dX7_look_9 (by decide) (fun c_2 => ?_) (fun c_2 => ?_)
    · rw [if_pos c_2] at h
      refine lv_iconst (v := (-1)) hx hb dX7_look_27 (by decide) ?_
      obtain ⟨rfl, rfl, rfl⟩ := sm_inj h
      exact gx_ri (post := gq_p (-1) σ τ) (v := (-1)) S hr hlk hw rfl dX7_look_28 ⟨rfl, rfl, rfl⟩
    · rw [if_neg c_2] at h
      refine lv_iload_n hx hb dX7_look_12 rfl (lv_at hl 1 rfl) ?_
      refine lv_bipush (v := 80) hx hb dX7_look_13 (by decide) ?_
      refine lv_icmp_ge (tgt := 27) hx hb dX7_look_15 (by decide) (fun c_3 => ?_) (fun c_3 => ?_)
      · rw [if_pos c_3] at h
        refine lv_iconst (v := (-1)) hx hb dX7_look_27 (by decide) ?_
        obtain ⟨rfl, rfl, rfl⟩ := sm_inj h
        exact gx_ri (post := gq_p (-1) σ τ) (v := (-1)) S hr hlk hw rfl dX7_look_28 ⟨rfl, rfl, rfl⟩
      · rw [if_neg c_3] at h
        refine lv_aload_n hx hb dX7_look_18 rfl (lv_at hl 0 rfl) ?_
        refine gx_getr (j := 2) S hK hw t_1 cl_8 0 (by decide) rfl mw_129 rfl dX7_look_19 ?_
        refine lv_iload_n hx hb dX7_look_22 rfl (lv_at hl 1 rfl) ?_
        obtain ⟨j_4, hj_4, hi_4, h⟩ := ck_some h
        refine gx_iald S hK hw t_2 j_4 hj_4 hi_4 dX7_look_23 ?_
        refine lv_goto (tgt := 28) hx hb dX7_look_24 (by decide) ?_
        obtain ⟨rfl, rfl, rfl⟩ := sm_inj h
        exact gx_ri (post := gq_p (σ 2 j_4) σ τ) (v := σ 2 j_4) S hr hlk hw rfl dX7_look_28 ⟨rfl, rfl, rfl⟩
set_option maxHeartbeats 4000000 in
set_option maxRecDepth 100000 in
theorem c_X7_look (l : Launch) {E : gE} (N : Nat) (σ : gI) (τ : gJ) (x1 : Int32) {r : Int32} {σ1 : gI} {τ1 : gJ} (h : B_X7_look_0 N σ τ x1 = some (r, σ1, τ1)) : gx_Mi l yX7_look cX7_look 2 (some .int) 0 gx_tb E σ τ [.ref (E.2.2 + 1), .int x1] (gq_p r σ1 τ1) := by
  refine gx_bi (by decide +kernel) (Nat.le_of_ble_eq_true rfl) ?_
  intro P9 e9 s m9 below meth C9 S hr hlk hK hw ls hl
  have hl : lv_has ls 2 [(0, .ref (E.2.2 + 1)), (1, .int x1)] := hl
  exact b_X7_look_0 l S hr hlk hK N σ τ x1 h hw hl
/-! X7_digit -/
def B_X7_digit_0 (N : Nat) (σ : gI) (τ : gJ) (x1 : Int32) : Option (Int32 × gI × gJ) := bd (B_X7_look_0 N σ τ x1) fun r_1 σ_1 τ_1 => if r_1 < 48 then (some ((-1), σ_1, τ_1)) else (if 57 < r_1 then (some ((-1), σ_1, τ_1)) else (some (r_1 - 48, σ_1, τ_1)))
set_option maxHeartbeats 4000000 in
set_option maxRecDepth 100000 in
theorem b_X7_digit_0 (l : Launch) (S : CallFix P9 m9 C9 cX7_digit 3 s av.toArray gx_G RX7) (hr : meth.sig.returnType = (some .int)) (hlk : meth.locks = false) (hK : gx_K E s) (N : Nat) (σ : gI) (τ : gJ) (x1 : Int32) {r : Int32} {σ1 : gI} {τ1 : gJ} (h : B_X7_digit_0 N σ τ x1 = some (r, σ1, τ1)) {H : Heap} {locs : List Loc} {ls : Array Slot} (hw : gx_W gx_tb gx_tb.length E s σ τ H locs) (hl : lv_has ls 3 [(0, .ref (E.2.2 + 1)), (1, .int x1)]) : W P9 l e9 (gx_rm 1) s m9 av.toArray below meth C9 H locs 0 0 (gq_Qi below av s E r σ1 τ1) (F0 m9 0 ls []) := by
  have hx := S.1
  have hb := S.2.1
  unfold B_X7_digit_0 at h
  refine lv_aload_n hx hb dX7_digit_0 rfl (lv_at hl 0 rfl) ?_
  refine lv_iload_n hx hb dX7_digit_1 rfl (lv_at hl 1 rfl) ?_
  obtain ⟨r_1, σ_1, τ_1, q_1, h⟩ := bd_some h
  refine gx_cVi (As := [.int x1]) (rest := []) S hK gx_ok hw (c_X7_look l (E := E) N σ τ x1 q_1) cw_X7_28 t_1 cl_8 ⟨Nat.le_of_ble_eq_true rfl, Nat.le_of_ble_eq_true rfl⟩ rfl hl.1 rfl (Nat.le_of_ble_eq_true rfl) ⟨Nat.le_of_ble_eq_true rfl, Nat.le_of_ble_eq_true rfl⟩ dX7_digit_2 (fun r9 σ9 τ9 H locs hp hw => ?_)
  obtain ⟨rfl, rfl, rfl⟩ := hp
  refine lv_istore_n (lv' := [(2, .int r_1), (0, .ref (E.2.2 + 1)), (1, .int x1)]) hx hb dX7_digit_5 rfl hl (by decide) rfl (fun ls hl => ?_)
  refine lv_iload_n hx hb dX7_digit_6 rfl (lv_at hl 0 rfl) ?_
  refine lv_bipush (v := 48) hx hb dX7_digit_7 (by decide) ?_
  refine lv_icmp_lt (tgt := 25) hx hb dX7_digit_9 (by decide) (fun c_2 => ?_) (fun c_2 => ?_)
  · rw [if_pos c_2] at h
    refine lv_iconst (v := (-1)) hx hb dX7_digit_25 (by decide) ?_
    obtain ⟨rfl, rfl, rfl⟩ := sm_inj h
    exact gx_ri (post := gq_p (-1) σ_1 τ_1) (v := (-1)) S hr hlk hw rfl dX7_digit_26 ⟨rfl, rfl, rfl⟩
  · rw [if_neg c_2] at h
    refine lv_iload_n hx hb dX7_digit_12 rfl (lv_at hl 0 rfl) ?_
    refine lv_bipush (v := 57) hx hb dX7_digit_13 (by decide) ?_
    refine lv_icmp_gt (tgt := 25) hx hb dX7_digit_15 (by decide) (fun c_3 => ?_) (fun c_3 => ?_)
    · rw [if_pos c_3] at h
      refine lv_iconst (v := (-1)) hx hb dX7_digit_25 (by decide) ?_
      obtain ⟨rfl, rfl, rfl⟩ := sm_inj h
      exact gx_ri (post := gq_p (-1) σ_1 τ_1) (v := (-1)) S hr hlk hw rfl dX7_digit_26 ⟨rfl, rfl, rfl⟩
    · rw [if_neg c_3] at h
      refine lv_iload_n hx hb dX7_digit_18 rfl (lv_at hl 0 rfl) ?_
      refine lv_bipush (v := 48) hx hb dX7_digit_19 (by decide) ?_
      refine lv_isub hx hb dX7_digit_21 ?_
      refine lv_goto (tgt := 26) hx hb dX7_digit_22 (by decide) ?_
      obtain ⟨rfl, rfl, rfl⟩ := sm_inj h
      exact gx_ri (post := gq_p (r_1 - 48) σ_1 τ_1) (v := r_1 - 48) S hr hlk hw rfl dX7_digit_26 ⟨rfl, rfl, rfl⟩
set_option maxHeartbeats 4000000 in
set_option maxRecDepth 100000 in
theorem c_X7_digit (l : Launch) {E : gE} (N : Nat) (σ : gI) (τ : gJ) (x1 : Int32) {r : Int32} {σ1 : gI} {τ1 : gJ} (h : B_X7_digit_0 N σ τ x1 = some (r, σ1, τ1)) : gx_Mi l yX7_digit cX7_digit 3 (some .int) 1 gx_tb E σ τ [.ref (E.2.2 + 1), .int x1] (gq_p r σ1 τ1) := by
  refine gx_bi (by decide +kernel) (Nat.le_of_ble_eq_true rfl) ?_
  intro P9 e9 s m9 below meth C9 S hr hlk hK hw ls hl
  have hl : lv_has ls 3 [(0, .ref (E.2.2 + 1)), (1, .int x1)] := hl
  exact b_X7_digit_0 l S hr hlk hK N σ τ x1 h hw hl
/-! X10_read -/
def C_X10_read_62 (N : Nat) (rec_62 : gI → gJ → Int32 → Option (Int32 × gI × gJ)) (σ : gI) (τ : gJ) (x2 : Int32) : Option (Int32 × gI × gJ) := if σ 15 1 ≤ x2 then (some (σ 15 1, σ, τ)) else (bd (B_X7_digit_0 N σ τ x2) fun r_2 σ_2 τ_2 => ck x2 40 fun j_3 => nm (up2 σ_2 16 j_3 r_2) fun σ_4 => nm (x2 + 1) fun v_5 => rec_62 σ_4 τ_2 v_5)
def H_X10_read_62 (N : Nat) : Nat → gI → gJ → Int32 → Option (Int32 × gI × gJ) := itn (fun rec_62 => C_X10_read_62 N rec_62) (fun _ _ _ => none)
def C_X10_read_8 (N : Nat) (rec_8 : gI → gJ → Int32 → Option (Int32 × gI × gJ)) (σ : gI) (τ : gJ) (x2 : Int32) : Option (Int32 × gI × gJ) := if 40 < x2 then (nm (up2 σ 15 1 (imin (σ 1 2) 40)) fun σ_2 => H_X10_read_62 N N σ_2 τ 0) else (bd (B_X7_isOver_0 N σ τ x2) fun r_3 σ_3 τ_3 => if r_3 = 0 then (bd (B_X7_digit_0 N σ_3 τ_3 x2) fun r_6 σ_6 τ_6 => if r_6 < 0 then (some ((-1) - x2, σ_6, τ_6)) else (if r_6 ≤ 3 then (nm (x2 + 1) fun v_9 => rec_8 σ_6 τ_6 v_9) else (some ((-1) - x2, σ_6, τ_6)))) else (nm (up2 σ_3 15 1 (imin (σ_3 1 2) 40)) fun σ_5 => H_X10_read_62 N N σ_5 τ_3 0))
def H_X10_read_8 (N : Nat) : Nat → gI → gJ → Int32 → Option (Int32 × gI × gJ) := itn (fun rec_8 => C_X10_read_8 N rec_8) (fun _ _ _ => none)
def B_X10_read_0 (N : Nat) (σ : gI) (τ : gJ) : Option (Int32 × gI × gJ) := bd (B_X7_showAtMost_0 N σ τ 40) fun _ σ_1 τ_1 => H_X10_read_8 N N σ_1 τ_1 0
set_option maxHeartbeats 4000000 in
set_option maxRecDepth 100000 in
theorem k_X10_read_62 (l : Launch) (S : CallFix P9 m9 C9 cX10_read 4 s av.toArray gx_G RX10) (hr : meth.sig.returnType = (some .int)) (hlk : meth.locks = false) (hK : gx_K E s) (N : Nat) (rec_62 : gI → gJ → Int32 → Option (Int32 × gI × gJ)) (hrec_62 : ∀ (σ : gI) (τ : gJ) (x2 : Int32) (r : Int32) (σ1 : gI) (τ1 : gJ) (H : Heap) (locs : List Loc) (ls : Array Slot), rec_62 σ τ x2 = some (r, σ1, τ1) → gx_W gx_tb gx_tb.length E s σ τ H locs → lv_has ls 4 [(0, .ref (E.2.2 + 15)), (1, .ref (E.2.2 + 1)), (2, .int x2)] → W P9 l e9 (gx_rm 2) s m9 av.toArray below meth C9 H locs 0 0 (gq_Qi below av s E r σ1 τ1) (F0 m9 62 ls [])) (σ : gI) (τ : gJ) (x2 : Int32) {r : Int32} {σ1 : gI} {τ1 : gJ} (h : C_X10_read_62 N rec_62 σ τ x2 = some (r, σ1, τ1)) {H : Heap} {locs : List Loc} {ls : Array Slot} (hw : gx_W gx_tb gx_tb.length E s σ τ H locs) (hl : lv_has ls 4 [(0, .ref (E.2.2 + 15)), (1, .ref (E.2.2 + 1)), (2, .int x2)]) : W P9 l e9 (gx_rm 2) s m9 av.toArray below meth C9 H locs 0 0 (gq_Qi below av s E r σ1 τ1) (F0 m9 62 ls []) := by
  have hx := S.1
  have hb := S.2.1
  unfold C_X10_read_62 at h
  refine lv_iload_n hx hb dX10_read_62 rfl (lv_at hl 2 rfl) ?_
  refine lv_aload_n hx hb dX10_read_63 rfl (lv_at hl 0 rfl) ?_
  refine gx_get S hK hw t_15 cl_11 1 (by decide) rfl mw_188 rfl dX10_read_64 ?_
  refine lv_icmp_ge (tgt := 87) hx hb dX10_read_67 (by decide) (fun c_1 => ?_) (fun c_1 => ?_)
  · rw [if_pos c_1] at h
    refine lv_aload_n hx hb dX10_read_87 rfl (lv_at hl 0 rfl) ?_
    refine gx_get S hK hw t_15 cl_11 1 (by decide) rfl mw_188 rfl dX10_read_88 ?_
    obtain ⟨rfl, rfl, rfl⟩ := sm_inj h
    exact gx_ri (post := gq_p (σ 15 1) σ τ) (v := σ 15 1) S hr hlk hw rfl dX10_read_91 ⟨rfl, rfl, rfl⟩
  · rw [if_neg c_1] at h
    refine lv_aload_n hx hb dX10_read_70 rfl (lv_at hl 0 rfl) ?_
    refine gx_getr (j := 16) S hK hw t_15 cl_11 0 (by decide) rfl mw_187 rfl dX10_read_71 ?_
    refine lv_iload_n hx hb dX10_read_74 rfl (lv_at hl 2 rfl) ?_
    refine lv_aload_n hx hb dX10_read_75 rfl (lv_at hl 1 rfl) ?_
    refine lv_iload_n hx hb dX10_read_76 rfl (lv_at hl 2 rfl) ?_
    obtain ⟨r_2, σ_2, τ_2, q_2, h⟩ := bd_some h
    refine gx_cVi (As := [.int x2]) (rest := [.int x2, .ref (E.2.2 + 16)]) S hK gx_ok hw (c_X7_digit l (E := E) N σ τ x2 q_2) cw_X10_29 t_1 cl_8 ⟨Nat.le_of_ble_eq_true rfl, Nat.le_of_ble_eq_true rfl⟩ rfl hl.1 rfl (Nat.le_of_ble_eq_true rfl) ⟨Nat.le_of_ble_eq_true rfl, Nat.le_of_ble_eq_true rfl⟩ dX10_read_77 (fun r9 σ9 τ9 H locs hp hw => ?_)
    obtain ⟨rfl, rfl, rfl⟩ := hp
    obtain ⟨j_3, hj_3, hi_3, h⟩ := ck_some h
    refine gx_iast S hK gx_ok hw t_16 j_3 hj_3 hi_3 dX10_read_80 (fun H locs hw => ?_)
    obtain ⟨σ_4, e_4, h⟩ := nm_some h
    rw [← e_4] at hw
    refine lv_iinc (v := x2 + 1) (lv' := [(2, .int (x2 + 1)), (0, .ref (E.2.2 + 15)), (1, .ref (E.2.2 + 1))]) hx hb dX10_read_81 hl (k := 2) rfl rfl (by decide) rfl (fun ls hl => ?_)
    obtain ⟨v_5, e_5, h⟩ := nm_some h
    have hl : lv_has ls 4 [(2, .int v_5), (0, .ref (E.2.2 + 15)), (1, .ref (E.2.2 + 1))] := by rw [e_5]; exact hl
    refine lv_goto (tgt := 62) hx hb dX10_read_84 (by decide) ?_
    exact hrec_62 σ_4 τ_2 v_5 _ _ _ _ _ _ h hw (lv_sub hl [1, 2, 0] rfl)
set_option maxHeartbeats 4000000 in
set_option maxRecDepth 100000 in
theorem h_X10_read_62 (l : Launch) (S : CallFix P9 m9 C9 cX10_read 4 s av.toArray gx_G RX10) (hr : meth.sig.returnType = (some .int)) (hlk : meth.locks = false) (hK : gx_K E s) (N : Nat) : ∀ (n : Nat) (σ : gI) (τ : gJ) (x2 : Int32) (r : Int32) (σ1 : gI) (τ1 : gJ), H_X10_read_62 N n σ τ x2 = some (r, σ1, τ1) → ∀ (H : Heap) (locs : List Loc) (ls : Array Slot), gx_W gx_tb gx_tb.length E s σ τ H locs → lv_has ls 4 [(0, .ref (E.2.2 + 15)), (1, .ref (E.2.2 + 1)), (2, .int x2)] → W P9 l e9 (gx_rm 2) s m9 av.toArray below meth C9 H locs 0 0 (gq_Qi below av s E r σ1 τ1) (F0 m9 62 ls []) := by
  intro n
  induction n with
  | zero => intro σ τ x2 r σ1 τ1 h; cases h
  | succ n ih =>
    intro σ τ x2 r σ1 τ1 h H locs ls hw hl
    exact k_X10_read_62 l S hr hlk hK N (H_X10_read_62 N n) (fun σ τ x2 r σ1 τ1 H locs ls h hw hl => ih σ τ x2 r σ1 τ1 h H locs ls hw hl) σ τ x2 h hw hl
set_option maxHeartbeats 4000000 in
set_option maxRecDepth 100000 in
theorem k_X10_read_8 (l : Launch) (S : CallFix P9 m9 C9 cX10_read 4 s av.toArray gx_G RX10) (hr : meth.sig.returnType = (some .int)) (hlk : meth.locks = false) (hK : gx_K E s) (N : Nat) (rec_8 : gI → gJ → Int32 → Option (Int32 × gI × gJ)) (hrec_8 : ∀ (σ : gI) (τ : gJ) (x2 : Int32) (r : Int32) (σ1 : gI) (τ1 : gJ) (H : Heap) (locs : List Loc) (ls : Array Slot), rec_8 σ τ x2 = some (r, σ1, τ1) → gx_W gx_tb gx_tb.length E s σ τ H locs → lv_has ls 4 [(0, .ref (E.2.2 + 15)), (1, .ref (E.2.2 + 1)), (2, .int x2)] → W P9 l e9 (gx_rm 2) s m9 av.toArray below meth C9 H locs 0 0 (gq_Qi below av s E r σ1 τ1) (F0 m9 8 ls [])) (σ : gI) (τ : gJ) (x2 : Int32) {r : Int32} {σ1 : gI} {τ1 : gJ} (h : C_X10_read_8 N rec_8 σ τ x2 = some (r, σ1, τ1)) {H : Heap} {locs : List Loc} {ls : Array Slot} (hw : gx_W gx_tb gx_tb.length E s σ τ H locs) (hl : lv_has ls 4 [(0, .ref (E.2.2 + 15)), (1, .ref (E.2.2 + 1)), (2, .int x2)]) : W P9 l e9 (gx_rm 2) s m9 av.toArray below meth C9 H locs 0 0 (gq_Qi below av s E r σ1 τ1) (F0 m9 8 ls []) := by
  have hx := S.1
  have hb := S.2.1
  unfold C_X10_read_8 at h
  refine lv_iload_n hx hb dX10_read_8 rfl (lv_at hl 2 rfl) ?_
  refine lv_bipush (v := 40) hx hb dX10_read_9 (by decide) ?_
  refine lv_icmp_gt (tgt := 47) hx hb dX10_read_11 (by decide) (fun c_1 => ?_) (fun c_1 => ?_)
  · rw [if_pos c_1] at h
    refine lv_aload_n hx hb dX10_read_47 rfl (lv_at hl 0 rfl) ?_
    refine lv_aload_n hx hb dX10_read_48 rfl (lv_at hl 1 rfl) ?_
    refine gx_get S hK hw t_1 cl_8 2 (by decide) rfl mw_133 rfl dX10_read_49 ?_
    refine lv_bipush (v := 40) hx hb dX10_read_52 (by decide) ?_
    refine gx_min (w := imin (σ 1 2) 40) S hl.1 mw_692 mw_529 mw_102 mw_530 ⟨Nat.le_of_ble_eq_true rfl, Nat.le_of_ble_eq_true rfl⟩ ⟨Nat.le_of_ble_eq_true rfl, Nat.le_of_ble_eq_true rfl⟩ dX10_read_54 rfl ?_
    refine gx_put S hK gx_ok hw t_15 cl_11 1 (by decide) rfl mw_188 rfl rfl (ty := .int) (v := imin (σ 1 2) 40) (by decide +kernel) rfl rfl dX10_read_57 (fun H locs hw => ?_)
    obtain ⟨σ_2, e_2, h⟩ := nm_some h
    rw [← e_2] at hw
    refine lv_iconst (v := 0) hx hb dX10_read_60 (by decide) ?_
    refine lv_istore_n (lv' := [(2, .int 0), (0, .ref (E.2.2 + 15)), (1, .ref (E.2.2 + 1))]) hx hb dX10_read_61 rfl hl (by decide) rfl (fun ls hl => ?_)
    exact h_X10_read_62 l S hr hlk hK N N σ_2 τ 0 _ _ _ h _ _ _ hw (lv_sub hl [1, 2, 0] rfl)
  · rw [if_neg c_1] at h
    refine lv_aload_n hx hb dX10_read_14 rfl (lv_at hl 1 rfl) ?_
    refine lv_iload_n hx hb dX10_read_15 rfl (lv_at hl 2 rfl) ?_
    obtain ⟨r_3, σ_3, τ_3, q_3, h⟩ := bd_some h
    refine gx_cVi (As := [.int x2]) (rest := []) S hK gx_ok hw (c_X7_isOver l (E := E) N σ τ x2 q_3) cw_X10_25 t_1 cl_8 ⟨Nat.le_of_ble_eq_true rfl, Nat.le_of_ble_eq_true rfl⟩ rfl hl.1 rfl (Nat.le_of_ble_eq_true rfl) ⟨Nat.le_of_ble_eq_true rfl, Nat.le_of_ble_eq_true rfl⟩ dX10_read_16 (fun r9 σ9 τ9 H locs hp hw => ?_)
    obtain ⟨rfl, rfl, rfl⟩ := hp
    refine lv_if_ne (tgt := 47) hx hb dX10_read_19 (by decide) (fun c_4 => ?_) (fun c_4 => ?_)
    · rw [if_neg c_4] at h
      refine lv_aload_n hx hb dX10_read_47 rfl (lv_at hl 0 rfl) ?_
      refine lv_aload_n hx hb dX10_read_48 rfl (lv_at hl 1 rfl) ?_
      refine gx_get S hK hw t_1 cl_8 2 (by decide) rfl mw_133 rfl dX10_read_49 ?_
      refine lv_bipush (v := 40) hx hb dX10_read_52 (by decide) ?_
      refine gx_min (w := imin (σ_3 1 2) 40) S hl.1 mw_692 mw_529 mw_102 mw_530 ⟨Nat.le_of_ble_eq_true rfl, Nat.le_of_ble_eq_true rfl⟩ ⟨Nat.le_of_ble_eq_true rfl, Nat.le_of_ble_eq_true rfl⟩ dX10_read_54 rfl ?_
      refine gx_put S hK gx_ok hw t_15 cl_11 1 (by decide) rfl mw_188 rfl rfl (ty := .int) (v := imin (σ_3 1 2) 40) (by decide +kernel) rfl rfl dX10_read_57 (fun H locs hw => ?_)
      obtain ⟨σ_5, e_5, h⟩ := nm_some h
      rw [← e_5] at hw
      refine lv_iconst (v := 0) hx hb dX10_read_60 (by decide) ?_
      refine lv_istore_n (lv' := [(2, .int 0), (0, .ref (E.2.2 + 15)), (1, .ref (E.2.2 + 1))]) hx hb dX10_read_61 rfl hl (by decide) rfl (fun ls hl => ?_)
      exact h_X10_read_62 l S hr hlk hK N N σ_5 τ_3 0 _ _ _ h _ _ _ hw (lv_sub hl [1, 2, 0] rfl)
    · rw [if_pos c_4] at h
      refine lv_aload_n hx hb dX10_read_22 rfl (lv_at hl 1 rfl) ?_
      refine lv_iload_n hx hb dX10_read_23 rfl (lv_at hl 2 rfl) ?_
      obtain ⟨r_6, σ_6, τ_6, q_6, h⟩ := bd_some h
      refine gx_cVi (As := [.int x2]) (rest := []) S hK gx_ok hw (c_X7_digit l (E := E) N σ_3 τ_3 x2 q_6) cw_X10_29 t_1 cl_8 ⟨Nat.le_of_ble_eq_true rfl, Nat.le_of_ble_eq_true rfl⟩ rfl hl.1 rfl (Nat.le_of_ble_eq_true rfl) ⟨Nat.le_of_ble_eq_true rfl, Nat.le_of_ble_eq_true rfl⟩ dX10_read_24 (fun r9 σ9 τ9 H locs hp hw => ?_)
      obtain ⟨rfl, rfl, rfl⟩ := hp
      refine lv_istore_n (lv' := [(3, .int r_6), (0, .ref (E.2.2 + 15)), (1, .ref (E.2.2 + 1)), (2, .int x2)]) hx hb dX10_read_27 rfl hl (by decide) rfl (fun ls hl => ?_)
      refine lv_iload_n hx hb dX10_read_28 rfl (lv_at hl 0 rfl) ?_
      refine lv_if_lt (tgt := 37) hx hb dX10_read_29 (by decide) (fun c_7 => ?_) (fun c_7 => ?_)
      · rw [if_pos c_7] at h
        refine lv_iconst (v := (-1)) hx hb dX10_read_37 (by decide) ?_
        refine lv_iload_n hx hb dX10_read_38 rfl (lv_at hl 3 rfl) ?_
        refine lv_isub hx hb dX10_read_39 ?_
        obtain ⟨rfl, rfl, rfl⟩ := sm_inj h
        exact gx_ri (post := gq_p ((-1) - x2) σ_6 τ_6) (v := (-1) - x2) S hr hlk hw rfl dX10_read_40 ⟨rfl, rfl, rfl⟩
      · rw [if_neg c_7] at h
        refine lv_iload_n hx hb dX10_read_32 rfl (lv_at hl 0 rfl) ?_
        refine lv_iconst (v := 3) hx hb dX10_read_33 (by decide) ?_
        refine lv_icmp_le (tgt := 41) hx hb dX10_read_34 (by decide) (fun c_8 => ?_) (fun c_8 => ?_)
        · rw [if_pos c_8] at h
          refine lv_iinc (v := x2 + 1) (lv' := [(2, .int (x2 + 1)), (3, .int r_6), (0, .ref (E.2.2 + 15)), (1, .ref (E.2.2 + 1))]) hx hb dX10_read_41 hl (k := 3) rfl rfl (by decide) rfl (fun ls hl => ?_)
          obtain ⟨v_9, e_9, h⟩ := nm_some h
          have hl : lv_has ls 4 [(2, .int v_9), (3, .int r_6), (0, .ref (E.2.2 + 15)), (1, .ref (E.2.2 + 1))] := by rw [e_9]; exact hl
          refine lv_goto (tgt := 8) hx hb dX10_read_44 (by decide) ?_
          exact hrec_8 σ_6 τ_6 v_9 _ _ _ _ _ _ h hw (lv_sub hl [2, 3, 0] rfl)
        · rw [if_neg c_8] at h
          refine lv_iconst (v := (-1)) hx hb dX10_read_37 (by decide) ?_
          refine lv_iload_n hx hb dX10_read_38 rfl (lv_at hl 3 rfl) ?_
          refine lv_isub hx hb dX10_read_39 ?_
          obtain ⟨rfl, rfl, rfl⟩ := sm_inj h
          exact gx_ri (post := gq_p ((-1) - x2) σ_6 τ_6) (v := (-1) - x2) S hr hlk hw rfl dX10_read_40 ⟨rfl, rfl, rfl⟩
set_option maxHeartbeats 4000000 in
set_option maxRecDepth 100000 in
theorem h_X10_read_8 (l : Launch) (S : CallFix P9 m9 C9 cX10_read 4 s av.toArray gx_G RX10) (hr : meth.sig.returnType = (some .int)) (hlk : meth.locks = false) (hK : gx_K E s) (N : Nat) : ∀ (n : Nat) (σ : gI) (τ : gJ) (x2 : Int32) (r : Int32) (σ1 : gI) (τ1 : gJ), H_X10_read_8 N n σ τ x2 = some (r, σ1, τ1) → ∀ (H : Heap) (locs : List Loc) (ls : Array Slot), gx_W gx_tb gx_tb.length E s σ τ H locs → lv_has ls 4 [(0, .ref (E.2.2 + 15)), (1, .ref (E.2.2 + 1)), (2, .int x2)] → W P9 l e9 (gx_rm 2) s m9 av.toArray below meth C9 H locs 0 0 (gq_Qi below av s E r σ1 τ1) (F0 m9 8 ls []) := by
  intro n
  induction n with
  | zero => intro σ τ x2 r σ1 τ1 h; cases h
  | succ n ih =>
    intro σ τ x2 r σ1 τ1 h H locs ls hw hl
    exact k_X10_read_8 l S hr hlk hK N (H_X10_read_8 N n) (fun σ τ x2 r σ1 τ1 H locs ls h hw hl => ih σ τ x2 r σ1 τ1 h H locs ls hw hl) σ τ x2 h hw hl
set_option maxHeartbeats 4000000 in
set_option maxRecDepth 100000 in
theorem b_X10_read_0 (l : Launch) (S : CallFix P9 m9 C9 cX10_read 4 s av.toArray gx_G RX10) (hr : meth.sig.returnType = (some .int)) (hlk : meth.locks = false) (hK : gx_K E s) (N : Nat) (σ : gI) (τ : gJ) {r : Int32} {σ1 : gI} {τ1 : gJ} (h : B_X10_read_0 N σ τ = some (r, σ1, τ1)) {H : Heap} {locs : List Loc} {ls : Array Slot} (hw : gx_W gx_tb gx_tb.length E s σ τ H locs) (hl : lv_has ls 4 [(0, .ref (E.2.2 + 15)), (1, .ref (E.2.2 + 1))]) : W P9 l e9 (gx_rm 2) s m9 av.toArray below meth C9 H locs 0 0 (gq_Qi below av s E r σ1 τ1) (F0 m9 0 ls []) := by
  have hx := S.1
  have hb := S.2.1
  unfold B_X10_read_0 at h
  refine lv_aload_n hx hb dX10_read_0 rfl (lv_at hl 1 rfl) ?_
  refine lv_bipush (v := 40) hx hb dX10_read_1 (by decide) ?_
  obtain ⟨u_1, σ_1, τ_1, q_1, h⟩ := bd_some h
  refine gx_cVv (As := [.int 40]) (rest := []) S hK gx_ok hw (c_X7_showAtMost l (E := E) N σ τ 40 q_1) cw_X10_19 t_1 cl_8 ⟨Nat.le_of_ble_eq_true rfl, Nat.le_of_ble_eq_true rfl⟩ rfl hl.1 rfl (Nat.le_of_ble_eq_true rfl) ⟨Nat.le_of_ble_eq_true rfl, Nat.le_of_ble_eq_true rfl⟩ dX10_read_3 (fun σ9 τ9 H locs hp hw => ?_)
  obtain ⟨rfl, rfl⟩ := hp
  refine lv_iconst (v := 0) hx hb dX10_read_6 (by decide) ?_
  refine lv_istore_n (lv' := [(2, .int 0), (0, .ref (E.2.2 + 15)), (1, .ref (E.2.2 + 1))]) hx hb dX10_read_7 rfl hl (by decide) rfl (fun ls hl => ?_)
  exact h_X10_read_8 l S hr hlk hK N N σ_1 τ_1 0 _ _ _ h _ _ _ hw (lv_sub hl [1, 2, 0] rfl)
set_option maxHeartbeats 4000000 in
set_option maxRecDepth 100000 in
theorem c_X10_read (l : Launch) {E : gE} (N : Nat) (σ : gI) (τ : gJ) {r : Int32} {σ1 : gI} {τ1 : gJ} (h : B_X10_read_0 N σ τ = some (r, σ1, τ1)) : gx_Mi l yX10_read cX10_read 4 (some .int) 2 gx_tb E σ τ [.ref (E.2.2 + 15), .ref (E.2.2 + 1)] (gq_p r σ1 τ1) := by
  refine gx_bi (by decide +kernel) (Nat.le_of_ble_eq_true rfl) ?_
  intro P9 e9 s m9 below meth C9 S hr hlk hK hw ls hl
  have hl : lv_has ls 4 [(0, .ref (E.2.2 + 15)), (1, .ref (E.2.2 + 1))] := hl
  exact b_X10_read_0 l S hr hlk hK N σ τ h hw hl
/-! X6_copy -/
def C_X6_copy_42 (N : Nat) (c : Nat) (d : Nat) (rec_42 : gI → gJ → Int32 → Option (Unit × gI × gJ)) (σ : gI) (τ : gJ) (x2 : Int32) : Option (Unit × gI × gJ) := if σ c 6 ≤ x2 then (some ((), σ, τ)) else (if 6 ≤ x2 then (some ((), σ, τ)) else (ck x2 6 fun j_3 => nm (up2 σ (c + 1) j_3 (σ (d + 1) j_3)) fun σ_4 => nm (up2 σ_4 (c + 2) j_3 (σ_4 (d + 2) j_3)) fun σ_5 => nm (up2 σ_5 (c + 3) j_3 (σ_5 (d + 3) j_3)) fun σ_6 => nm (up2 σ_6 (c + 4) j_3 (σ_6 (d + 4) j_3)) fun σ_7 => nm (up2 σ_7 (c + 5) j_3 (σ_7 (d + 5) j_3)) fun σ_8 => nm (up2 σ_8 (c + 6) j_3 (σ_8 (d + 6) j_3)) fun σ_9 => nm (x2 + 1) fun v_10 => rec_42 σ_9 τ v_10))
def H_X6_copy_42 (N : Nat) (c : Nat) (d : Nat) : Nat → gI → gJ → Int32 → Option (Unit × gI × gJ) := itn (fun rec_42 => C_X6_copy_42 N c d rec_42) (fun _ _ _ => none)
def B_X6_copy_0 (N : Nat) (c : Nat) (d : Nat) (σ : gI) (τ : gJ) : Option (Unit × gI × gJ) := nm (up2 σ c 6 (σ d 6)) fun σ_1 => nm (up2 σ_1 c 7 (σ_1 d 7)) fun σ_2 => nm (up2 σ_2 c 8 (σ_2 d 8)) fun σ_3 => nm (up2 σ_3 c 9 (σ_3 d 9)) fun σ_4 => nm (up2 σ_4 c 10 (σ_4 d 10)) fun σ_5 => H_X6_copy_42 N c d N σ_5 τ 0
set_option maxHeartbeats 4000000 in
set_option maxRecDepth 100000 in
theorem k_X6_copy_42 (l : Launch) (S : CallFix P9 m9 C9 cX6_copy 3 s av.toArray gx_G RX6) (hr : meth.sig.returnType = none) (hlk : meth.locks = false) (hK : gx_K E s) (N : Nat) (c : Nat) (d : Nat) (tc : gx_isS c) (td : gx_isS d) (rec_42 : gI → gJ → Int32 → Option (Unit × gI × gJ)) (hrec_42 : ∀ (σ : gI) (τ : gJ) (x2 : Int32) (r : Unit) (σ1 : gI) (τ1 : gJ) (H : Heap) (locs : List Loc) (ls : Array Slot), rec_42 σ τ x2 = some (r, σ1, τ1) → gx_W gx_tb gx_tb.length E s σ τ H locs → lv_has ls 3 [(0, .ref (E.2.2 + c)), (1, .ref (E.2.2 + d)), (2, .int x2)] → W P9 l e9 (gx_rm 0) s m9 av.toArray below meth C9 H locs 0 0 (gq_Qv below av s E σ1 τ1) (F0 m9 42 ls [])) (σ : gI) (τ : gJ) (x2 : Int32) {r : Unit} {σ1 : gI} {τ1 : gJ} (h : C_X6_copy_42 N c d rec_42 σ τ x2 = some (r, σ1, τ1)) {H : Heap} {locs : List Loc} {ls : Array Slot} (hw : gx_W gx_tb gx_tb.length E s σ τ H locs) (hl : lv_has ls 3 [(0, .ref (E.2.2 + c)), (1, .ref (E.2.2 + d)), (2, .int x2)]) : W P9 l e9 (gx_rm 0) s m9 av.toArray below meth C9 H locs 0 0 (gq_Qv below av s E σ1 τ1) (F0 m9 42 ls []) := by
  have hx := S.1
  have hb := S.2.1
  unfold C_X6_copy_42 at h
  refine lv_iload_n hx hb dX6_copy_42 rfl (lv_at hl 2 rfl) ?_
  refine lv_aload_n hx hb dX6_copy_43 rfl (lv_at hl 0 rfl) ?_
  refine gx_get S hK hw tc.1 cl_7 6 (by decide) rfl mw_270 rfl dX6_copy_44 ?_
  refine lv_icmp_ge (tgt := 134) hx hb dX6_copy_47 (by decide) (fun c_1 => ?_) (fun c_1 => ?_)
  · rw [if_pos c_1] at h
    obtain ⟨-, rfl, rfl⟩ := sm_inj h
    exact gx_rv (post := gq_v σ τ) S hr hlk hw dX6_copy_134 ⟨rfl, rfl⟩
  · rw [if_neg c_1] at h
    refine lv_iload_n hx hb dX6_copy_50 rfl (lv_at hl 2 rfl) ?_
    refine lv_bipush (v := 6) hx hb dX6_copy_51 (by decide) ?_
    refine lv_icmp_ge (tgt := 134) hx hb dX6_copy_53 (by decide) (fun c_2 => ?_) (fun c_2 => ?_)
    · rw [if_pos c_2] at h
      obtain ⟨-, rfl, rfl⟩ := sm_inj h
      exact gx_rv (post := gq_v σ τ) S hr hlk hw dX6_copy_134 ⟨rfl, rfl⟩
    · rw [if_neg c_2] at h
      refine lv_aload_n hx hb dX6_copy_56 rfl (lv_at hl 0 rfl) ?_
      refine gx_getr (j := c + 1) S hK hw tc.1 cl_7 0 (by decide) rfl mw_264 rfl dX6_copy_57 ?_
      refine lv_iload_n hx hb dX6_copy_60 rfl (lv_at hl 2 rfl) ?_
      refine lv_aload_n hx hb dX6_copy_61 rfl (lv_at hl 1 rfl) ?_
      refine gx_getr (j := d + 1) S hK hw td.1 cl_7 0 (by decide) rfl mw_264 rfl dX6_copy_62 ?_
      refine lv_iload_n hx hb dX6_copy_65 rfl (lv_at hl 2 rfl) ?_
      obtain ⟨j_3, hj_3, hi_3, h⟩ := ck_some h
      refine gx_iald S hK hw (iS_1 td) j_3 hj_3 hi_3 dX6_copy_66 ?_
      refine gx_iast S hK gx_ok hw (iS_1 tc) j_3 hj_3 hi_3 dX6_copy_67 (fun H locs hw => ?_)
      obtain ⟨σ_4, e_4, h⟩ := nm_some h
      rw [← e_4] at hw
      refine lv_aload_n hx hb dX6_copy_68 rfl (lv_at hl 0 rfl) ?_
      refine gx_getr (j := c + 2) S hK hw tc.1 cl_7 1 (by decide) rfl mw_265 rfl dX6_copy_69 ?_
      refine lv_iload_n hx hb dX6_copy_72 rfl (lv_at hl 2 rfl) ?_
      refine lv_aload_n hx hb dX6_copy_73 rfl (lv_at hl 1 rfl) ?_
      refine gx_getr (j := d + 2) S hK hw td.1 cl_7 1 (by decide) rfl mw_265 rfl dX6_copy_74 ?_
      refine lv_iload_n hx hb dX6_copy_77 rfl (lv_at hl 2 rfl) ?_
      refine gx_iald S hK hw (iS_2 td) j_3 hj_3 hi_3 dX6_copy_78 ?_
      refine gx_iast S hK gx_ok hw (iS_2 tc) j_3 hj_3 hi_3 dX6_copy_79 (fun H locs hw => ?_)
      obtain ⟨σ_5, e_5, h⟩ := nm_some h
      rw [← e_5] at hw
      refine lv_aload_n hx hb dX6_copy_80 rfl (lv_at hl 0 rfl) ?_
      refine gx_getr (j := c + 3) S hK hw tc.1 cl_7 2 (by decide) rfl mw_266 rfl dX6_copy_81 ?_
      refine lv_iload_n hx hb dX6_copy_84 rfl (lv_at hl 2 rfl) ?_
      refine lv_aload_n hx hb dX6_copy_85 rfl (lv_at hl 1 rfl) ?_
      refine gx_getr (j := d + 3) S hK hw td.1 cl_7 2 (by decide) rfl mw_266 rfl dX6_copy_86 ?_
      refine lv_iload_n hx hb dX6_copy_89 rfl (lv_at hl 2 rfl) ?_
      refine gx_iald S hK hw (iS_3 td) j_3 hj_3 hi_3 dX6_copy_90 ?_
      refine gx_iast S hK gx_ok hw (iS_3 tc) j_3 hj_3 hi_3 dX6_copy_91 (fun H locs hw => ?_)
      obtain ⟨σ_6, e_6, h⟩ := nm_some h
      rw [← e_6] at hw
      refine lv_aload_n hx hb dX6_copy_92 rfl (lv_at hl 0 rfl) ?_
      refine gx_getr (j := c + 4) S hK hw tc.1 cl_7 3 (by decide) rfl mw_267 rfl dX6_copy_93 ?_
      refine lv_iload_n hx hb dX6_copy_96 rfl (lv_at hl 2 rfl) ?_
      refine lv_aload_n hx hb dX6_copy_97 rfl (lv_at hl 1 rfl) ?_
      refine gx_getr (j := d + 4) S hK hw td.1 cl_7 3 (by decide) rfl mw_267 rfl dX6_copy_98 ?_
      refine lv_iload_n hx hb dX6_copy_101 rfl (lv_at hl 2 rfl) ?_
      refine gx_iald S hK hw (iS_4 td) j_3 hj_3 hi_3 dX6_copy_102 ?_
      refine gx_iast S hK gx_ok hw (iS_4 tc) j_3 hj_3 hi_3 dX6_copy_103 (fun H locs hw => ?_)
      obtain ⟨σ_7, e_7, h⟩ := nm_some h
      rw [← e_7] at hw
      refine lv_aload_n hx hb dX6_copy_104 rfl (lv_at hl 0 rfl) ?_
      refine gx_getr (j := c + 5) S hK hw tc.1 cl_7 4 (by decide) rfl mw_268 rfl dX6_copy_105 ?_
      refine lv_iload_n hx hb dX6_copy_108 rfl (lv_at hl 2 rfl) ?_
      refine lv_aload_n hx hb dX6_copy_109 rfl (lv_at hl 1 rfl) ?_
      refine gx_getr (j := d + 5) S hK hw td.1 cl_7 4 (by decide) rfl mw_268 rfl dX6_copy_110 ?_
      refine lv_iload_n hx hb dX6_copy_113 rfl (lv_at hl 2 rfl) ?_
      refine gx_iald S hK hw (iS_5 td) j_3 hj_3 hi_3 dX6_copy_114 ?_
      refine gx_iast S hK gx_ok hw (iS_5 tc) j_3 hj_3 hi_3 dX6_copy_115 (fun H locs hw => ?_)
      obtain ⟨σ_8, e_8, h⟩ := nm_some h
      rw [← e_8] at hw
      refine lv_aload_n hx hb dX6_copy_116 rfl (lv_at hl 0 rfl) ?_
      refine gx_getr (j := c + 6) S hK hw tc.1 cl_7 5 (by decide) rfl mw_269 rfl dX6_copy_117 ?_
      refine lv_iload_n hx hb dX6_copy_120 rfl (lv_at hl 2 rfl) ?_
      refine lv_aload_n hx hb dX6_copy_121 rfl (lv_at hl 1 rfl) ?_
      refine gx_getr (j := d + 6) S hK hw td.1 cl_7 5 (by decide) rfl mw_269 rfl dX6_copy_122 ?_
      refine lv_iload_n hx hb dX6_copy_125 rfl (lv_at hl 2 rfl) ?_
      refine gx_iald S hK hw (iS_6 td) j_3 hj_3 hi_3 dX6_copy_126 ?_
      refine gx_iast S hK gx_ok hw (iS_6 tc) j_3 hj_3 hi_3 dX6_copy_127 (fun H locs hw => ?_)
      obtain ⟨σ_9, e_9, h⟩ := nm_some h
      rw [← e_9] at hw
      refine lv_iinc (v := x2 + 1) (lv' := [(2, .int (x2 + 1)), (0, .ref (E.2.2 + c)), (1, .ref (E.2.2 + d))]) hx hb dX6_copy_128 hl (k := 2) rfl rfl (by decide) rfl (fun ls hl => ?_)
      obtain ⟨v_10, e_10, h⟩ := nm_some h
      have hl : lv_has ls 3 [(2, .int v_10), (0, .ref (E.2.2 + c)), (1, .ref (E.2.2 + d))] := by rw [e_10]; exact hl
      refine lv_goto (tgt := 42) hx hb dX6_copy_131 (by decide) ?_
      exact hrec_42 σ_9 τ v_10 _ _ _ _ _ _ h hw (lv_sub hl [1, 2, 0] rfl)
set_option maxHeartbeats 4000000 in
set_option maxRecDepth 100000 in
theorem h_X6_copy_42 (l : Launch) (S : CallFix P9 m9 C9 cX6_copy 3 s av.toArray gx_G RX6) (hr : meth.sig.returnType = none) (hlk : meth.locks = false) (hK : gx_K E s) (N : Nat) (c : Nat) (d : Nat) (tc : gx_isS c) (td : gx_isS d) : ∀ (n : Nat) (σ : gI) (τ : gJ) (x2 : Int32) (r : Unit) (σ1 : gI) (τ1 : gJ), H_X6_copy_42 N c d n σ τ x2 = some (r, σ1, τ1) → ∀ (H : Heap) (locs : List Loc) (ls : Array Slot), gx_W gx_tb gx_tb.length E s σ τ H locs → lv_has ls 3 [(0, .ref (E.2.2 + c)), (1, .ref (E.2.2 + d)), (2, .int x2)] → W P9 l e9 (gx_rm 0) s m9 av.toArray below meth C9 H locs 0 0 (gq_Qv below av s E σ1 τ1) (F0 m9 42 ls []) := by
  intro n
  induction n with
  | zero => intro σ τ x2 r σ1 τ1 h; cases h
  | succ n ih =>
    intro σ τ x2 r σ1 τ1 h H locs ls hw hl
    exact k_X6_copy_42 l S hr hlk hK N c d tc td (H_X6_copy_42 N c d n) (fun σ τ x2 r σ1 τ1 H locs ls h hw hl => ih σ τ x2 r σ1 τ1 h H locs ls hw hl) σ τ x2 h hw hl
set_option maxHeartbeats 4000000 in
set_option maxRecDepth 100000 in
theorem b_X6_copy_0 (l : Launch) (S : CallFix P9 m9 C9 cX6_copy 3 s av.toArray gx_G RX6) (hr : meth.sig.returnType = none) (hlk : meth.locks = false) (hK : gx_K E s) (N : Nat) (c : Nat) (d : Nat) (tc : gx_isS c) (td : gx_isS d) (σ : gI) (τ : gJ) {r : Unit} {σ1 : gI} {τ1 : gJ} (h : B_X6_copy_0 N c d σ τ = some (r, σ1, τ1)) {H : Heap} {locs : List Loc} {ls : Array Slot} (hw : gx_W gx_tb gx_tb.length E s σ τ H locs) (hl : lv_has ls 3 [(0, .ref (E.2.2 + c)), (1, .ref (E.2.2 + d))]) : W P9 l e9 (gx_rm 0) s m9 av.toArray below meth C9 H locs 0 0 (gq_Qv below av s E σ1 τ1) (F0 m9 0 ls []) := by
  have hx := S.1
  have hb := S.2.1
  unfold B_X6_copy_0 at h
  refine lv_aload_n hx hb dX6_copy_0 rfl (lv_at hl 0 rfl) ?_
  refine lv_aload_n hx hb dX6_copy_1 rfl (lv_at hl 1 rfl) ?_
  refine gx_get S hK hw td.1 cl_7 6 (by decide) rfl mw_270 rfl dX6_copy_2 ?_
  refine gx_put S hK gx_ok hw tc.1 cl_7 6 (by decide) rfl mw_270 rfl rfl (ty := .int) (v := σ d 6) (by decide +kernel) rfl rfl dX6_copy_5 (fun H locs hw => ?_)
  obtain ⟨σ_1, e_1, h⟩ := nm_some h
  rw [← e_1] at hw
  refine lv_aload_n hx hb dX6_copy_8 rfl (lv_at hl 0 rfl) ?_
  refine lv_aload_n hx hb dX6_copy_9 rfl (lv_at hl 1 rfl) ?_
  refine gx_get S hK hw td.1 cl_7 7 (by decide) rfl mw_273 rfl dX6_copy_10 ?_
  refine gx_put S hK gx_ok hw tc.1 cl_7 7 (by decide) rfl mw_273 rfl rfl (ty := .int) (v := σ_1 d 7) (by decide +kernel) rfl rfl dX6_copy_13 (fun H locs hw => ?_)
  obtain ⟨σ_2, e_2, h⟩ := nm_some h
  rw [← e_2] at hw
  refine lv_aload_n hx hb dX6_copy_16 rfl (lv_at hl 0 rfl) ?_
  refine lv_aload_n hx hb dX6_copy_17 rfl (lv_at hl 1 rfl) ?_
  refine gx_get S hK hw td.1 cl_7 8 (by decide) rfl mw_277 rfl dX6_copy_18 ?_
  refine gx_put S hK gx_ok hw tc.1 cl_7 8 (by decide) rfl mw_277 rfl rfl (ty := .int) (v := σ_2 d 8) (by decide +kernel) rfl rfl dX6_copy_21 (fun H locs hw => ?_)
  obtain ⟨σ_3, e_3, h⟩ := nm_some h
  rw [← e_3] at hw
  refine lv_aload_n hx hb dX6_copy_24 rfl (lv_at hl 0 rfl) ?_
  refine lv_aload_n hx hb dX6_copy_25 rfl (lv_at hl 1 rfl) ?_
  refine gx_get S hK hw td.1 cl_7 9 (by decide) rfl mw_281 rfl dX6_copy_26 ?_
  refine gx_put S hK gx_ok hw tc.1 cl_7 9 (by decide) rfl mw_281 rfl rfl (ty := .int) (v := σ_3 d 9) (by decide +kernel) rfl rfl dX6_copy_29 (fun H locs hw => ?_)
  obtain ⟨σ_4, e_4, h⟩ := nm_some h
  rw [← e_4] at hw
  refine lv_aload_n hx hb dX6_copy_32 rfl (lv_at hl 0 rfl) ?_
  refine lv_aload_n hx hb dX6_copy_33 rfl (lv_at hl 1 rfl) ?_
  refine gx_get S hK hw td.1 cl_7 10 (by decide) rfl mw_284 rfl dX6_copy_34 ?_
  refine gx_put S hK gx_ok hw tc.1 cl_7 10 (by decide) rfl mw_284 rfl rfl (ty := .int) (v := σ_4 d 10) (by decide +kernel) rfl rfl dX6_copy_37 (fun H locs hw => ?_)
  obtain ⟨σ_5, e_5, h⟩ := nm_some h
  rw [← e_5] at hw
  refine lv_iconst (v := 0) hx hb dX6_copy_40 (by decide) ?_
  refine lv_istore_n (lv' := [(2, .int 0), (0, .ref (E.2.2 + c)), (1, .ref (E.2.2 + d))]) hx hb dX6_copy_41 rfl hl (by decide) rfl (fun ls hl => ?_)
  exact h_X6_copy_42 l S hr hlk hK N c d tc td N σ_5 τ 0 _ _ _ h _ _ _ hw (lv_sub hl [1, 2, 0] rfl)
set_option maxHeartbeats 4000000 in
set_option maxRecDepth 100000 in
theorem c_X6_copy (l : Launch) {E : gE} (N : Nat) (c : Nat) (d : Nat) (tc : gx_isS c) (td : gx_isS d) (σ : gI) (τ : gJ) {r : Unit} {σ1 : gI} {τ1 : gJ} (h : B_X6_copy_0 N c d σ τ = some (r, σ1, τ1)) : gx_Mv l yX6_copy cX6_copy 3 none 0 gx_tb E σ τ [.ref (E.2.2 + c), .ref (E.2.2 + d)] (gq_v σ1 τ1) := by
  refine gx_bv (by decide +kernel) (Nat.le_of_ble_eq_true rfl) ?_
  intro P9 e9 s m9 below meth C9 S hr hlk hK hw ls hl
  have hl : lv_has ls 3 [(0, .ref (E.2.2 + c)), (1, .ref (E.2.2 + d))] := hl
  exact b_X6_copy_0 l S hr hlk hK N c d tc td σ τ h hw hl
/-! X3_clear -/
def B_X3_clear_0 (N : Nat) (σ : gI) (τ : gJ) : Option (Unit × gI × gJ) := nm (up2 σ 44 2 0) fun σ_1 => some ((), σ_1, τ)
set_option maxHeartbeats 4000000 in
set_option maxRecDepth 100000 in
theorem b_X3_clear_0 (l : Launch) (S : CallFix P9 m9 C9 cX3_clear 1 s av.toArray gx_G RX3) (hr : meth.sig.returnType = none) (hlk : meth.locks = false) (hK : gx_K E s) (N : Nat) (σ : gI) (τ : gJ) {r : Unit} {σ1 : gI} {τ1 : gJ} (h : B_X3_clear_0 N σ τ = some (r, σ1, τ1)) {H : Heap} {locs : List Loc} {ls : Array Slot} (hw : gx_W gx_tb gx_tb.length E s σ τ H locs) (hl : lv_has ls 1 [(0, .ref (E.2.2 + 44))]) : W P9 l e9 (gx_rm 0) s m9 av.toArray below meth C9 H locs 0 0 (gq_Qv below av s E σ1 τ1) (F0 m9 0 ls []) := by
  have hx := S.1
  have hb := S.2.1
  unfold B_X3_clear_0 at h
  refine lv_aload_n hx hb dX3_clear_0 rfl (lv_at hl 0 rfl) ?_
  refine lv_iconst (v := 0) hx hb dX3_clear_1 (by decide) ?_
  refine gx_put S hK gx_ok hw t_44 cl_4 2 (by decide) rfl mw_321 rfl rfl (ty := .int) (v := 0) (by decide +kernel) rfl rfl dX3_clear_2 (fun H locs hw => ?_)
  obtain ⟨σ_1, e_1, h⟩ := nm_some h
  rw [← e_1] at hw
  obtain ⟨-, rfl, rfl⟩ := sm_inj h
  exact gx_rv (post := gq_v σ_1 τ) S hr hlk hw dX3_clear_5 ⟨rfl, rfl⟩
set_option maxHeartbeats 4000000 in
set_option maxRecDepth 100000 in
theorem c_X3_clear (l : Launch) {E : gE} (N : Nat) (σ : gI) (τ : gJ) {r : Unit} {σ1 : gI} {τ1 : gJ} (h : B_X3_clear_0 N σ τ = some (r, σ1, τ1)) : gx_Mv l yX3_clear cX3_clear 1 none 0 gx_tb E σ τ [.ref (E.2.2 + 44)] (gq_v σ1 τ1) := by
  refine gx_bv (by decide +kernel) (Nat.le_of_ble_eq_true rfl) ?_
  intro P9 e9 s m9 below meth C9 S hr hlk hK hw ls hl
  have hl : lv_has ls 1 [(0, .ref (E.2.2 + 44))] := hl
  exact b_X3_clear_0 l S hr hlk hK N σ τ h hw hl
/-! X11_again -/
def B_X11_again_0 (N : Nat) (σ : gI) (τ : gJ) (x1 : Int32) : Option (Int32 × gI × gJ) := if x1 < 0 then (some (0, σ, τ)) else (if 3 ≤ x1 then (some (0, σ, τ)) else (if ((σ 0 11) >>> (x1 &&& 31)) &&& 1 = 0 then (some (0, σ, τ)) else (ck x1 3 fun j_4 => bd (B_X6_copy_0 N 30 (178 + 7 * j_4) σ τ) fun _ σ_5 τ_5 => bd (B_X3_clear_0 N σ_5 τ_5) fun _ σ_6 τ_6 => some (1, σ_6, τ_6))))
set_option maxHeartbeats 4000000 in
set_option maxRecDepth 100000 in
theorem b_X11_again_0 (l : Launch) (S : CallFix P9 m9 C9 cX11_again 2 s av.toArray gx_G RX11) (hr : meth.sig.returnType = (some .boolean)) (hlk : meth.locks = false) (hK : gx_K E s) (N : Nat) (σ : gI) (τ : gJ) (x1 : Int32) {r : Int32} {σ1 : gI} {τ1 : gJ} (h : B_X11_again_0 N σ τ x1 = some (r, σ1, τ1)) {H : Heap} {locs : List Loc} {ls : Array Slot} (hw : gx_W gx_tb gx_tb.length E s σ τ H locs) (hl : lv_has ls 2 [(0, .ref (E.2.2 + 0)), (1, .int x1)]) : W P9 l e9 (gx_rm 1) s m9 av.toArray below meth C9 H locs 0 0 (gq_Qi below av s E r σ1 τ1) (F0 m9 0 ls []) := by
  have hx := S.1
  have hb := S.2.1
  unfold B_X11_again_0 at h
  refine lv_iload_n hx hb dX11_again_0 rfl (lv_at hl 1 rfl) ?_
  refine lv_if_lt (tgt := 20) hx hb dX11_again_1 (by decide) (fun c_1 => ?_) (fun c_1 => ?_)
  · rw [if_pos c_1] at h
    refine lv_iconst (v := 0) hx hb dX11_again_20 (by decide) ?_
    obtain ⟨rfl, rfl, rfl⟩ := sm_inj h
    exact gx_ri (post := gq_p 0 σ τ) (v := 0) S hr hlk hw rfl dX11_again_21 ⟨rfl, rfl, rfl⟩
  · rw [if_neg c_1] at h
    refine lv_iload_n hx hb dX11_again_4 rfl (lv_at hl 1 rfl) ?_
    refine lv_iconst (v := 3) hx hb dX11_again_5 (by decide) ?_
    refine lv_icmp_ge (tgt := 20) hx hb dX11_again_6 (by decide) (fun c_2 => ?_) (fun c_2 => ?_)
    · rw [if_pos c_2] at h
      refine lv_iconst (v := 0) hx hb dX11_again_20 (by decide) ?_
      obtain ⟨rfl, rfl, rfl⟩ := sm_inj h
      exact gx_ri (post := gq_p 0 σ τ) (v := 0) S hr hlk hw rfl dX11_again_21 ⟨rfl, rfl, rfl⟩
    · rw [if_neg c_2] at h
      refine lv_aload_n hx hb dX11_again_9 rfl (lv_at hl 0 rfl) ?_
      refine gx_get S hK hw t_0 cl_12 11 (by decide) rfl mw_458 rfl dX11_again_10 ?_
      refine lv_iload_n hx hb dX11_again_13 rfl (lv_at hl 1 rfl) ?_
      refine lv_ishr hx hb dX11_again_14 ?_
      refine lv_iconst (v := 1) hx hb dX11_again_15 (by decide) ?_
      refine lv_iand hx hb dX11_again_16 ?_
      refine lv_if_ne (tgt := 22) hx hb dX11_again_17 (by decide) (fun c_3 => ?_) (fun c_3 => ?_)
      · rw [if_neg c_3] at h
        refine lv_aload_n hx hb dX11_again_22 rfl (lv_at hl 0 rfl) ?_
        refine gx_getr (j := 30) S hK hw t_0 cl_12 7 (by decide) rfl mw_454 rfl dX11_again_23 ?_
        refine lv_aload_n hx hb dX11_again_26 rfl (lv_at hl 0 rfl) ?_
        refine gx_getr (j := 151) S hK hw t_0 cl_12 10 (by decide) rfl mw_457 rfl dX11_again_27 ?_
        refine lv_iload_n hx hb dX11_again_30 rfl (lv_at hl 1 rfl) ?_
        obtain ⟨j_4, hj_4, hi_4, h⟩ := ck_some h
        refine gx_aald (r := 178 + 7 * j_4) S hK hw t_151 j_4 hj_4 hi_4 (ra_kept (in_lt hi_4 hj_4)) dX11_again_31 ?_
        obtain ⟨u_5, σ_5, τ_5, q_5, h⟩ := bd_some h
        refine gx_cVv (As := [.ref (E.2.2 + (178 + 7 * j_4))]) (rest := []) S hK gx_ok hw (c_X6_copy l (E := E) N 30 (178 + 7 * j_4) is_30 (tb_kept (in_lt hi_4 hj_4)) σ τ q_5) cw_X11_270 t_30 cl_7 ⟨Nat.le_of_ble_eq_true rfl, Nat.le_of_ble_eq_true rfl⟩ rfl hl.1 rfl (Nat.le_of_ble_eq_true rfl) ⟨Nat.le_of_ble_eq_true rfl, Nat.le_of_ble_eq_true rfl⟩ dX11_again_32 (fun σ9 τ9 H locs hp hw => ?_)
        obtain ⟨rfl, rfl⟩ := hp
        refine lv_aload_n hx hb dX11_again_35 rfl (lv_at hl 0 rfl) ?_
        refine gx_getr (j := 44) S hK hw t_0 cl_12 9 (by decide) rfl mw_456 rfl dX11_again_36 ?_
        obtain ⟨u_6, σ_6, τ_6, q_6, h⟩ := bd_some h
        refine gx_cVv (As := []) (rest := []) S hK gx_ok hw (c_X3_clear l (E := E) N σ_5 τ_5 q_6) cw_X11_125 t_44 cl_4 ⟨Nat.le_of_ble_eq_true rfl, Nat.le_of_ble_eq_true rfl⟩ rfl hl.1 rfl (Nat.le_of_ble_eq_true rfl) ⟨Nat.le_of_ble_eq_true rfl, Nat.le_of_ble_eq_true rfl⟩ dX11_again_39 (fun σ9 τ9 H locs hp hw => ?_)
        obtain ⟨rfl, rfl⟩ := hp
        refine lv_iconst (v := 1) hx hb dX11_again_42 (by decide) ?_
        obtain ⟨rfl, rfl, rfl⟩ := sm_inj h
        exact gx_ri (post := gq_p 1 σ_6 τ_6) (v := 1) S hr hlk hw rfl dX11_again_43 ⟨rfl, rfl, rfl⟩
      · rw [if_pos c_3] at h
        refine lv_iconst (v := 0) hx hb dX11_again_20 (by decide) ?_
        obtain ⟨rfl, rfl, rfl⟩ := sm_inj h
        exact gx_ri (post := gq_p 0 σ τ) (v := 0) S hr hlk hw rfl dX11_again_21 ⟨rfl, rfl, rfl⟩
set_option maxHeartbeats 4000000 in
set_option maxRecDepth 100000 in
theorem c_X11_again (l : Launch) {E : gE} (N : Nat) (σ : gI) (τ : gJ) (x1 : Int32) {r : Int32} {σ1 : gI} {τ1 : gJ} (h : B_X11_again_0 N σ τ x1 = some (r, σ1, τ1)) : gx_Mi l yX11_again cX11_again 2 (some .boolean) 1 gx_tb E σ τ [.ref (E.2.2 + 0), .int x1] (gq_p r σ1 τ1) := by
  refine gx_bi (by decide +kernel) (Nat.le_of_ble_eq_true rfl) ?_
  intro P9 e9 s m9 below meth C9 S hr hlk hK hw ls hl
  have hl : lv_has ls 2 [(0, .ref (E.2.2 + 0)), (1, .int x1)] := hl
  exact b_X11_again_0 l S hr hlk hK N σ τ x1 h hw hl
/-! X11_isLoad -/
def B_X11_isLoad_0 (N : Nat) (σ : gI) (τ : gJ) (x0 : Int32) (x1 : Int32) : Option (Int32 × gI × gJ) := if x0 < 0 then (some (0, σ, τ)) else (if 99 < x0 then (some (0, σ, τ)) else (if x1 < 0 then (some (0, σ, τ)) else (if 9 < x1 then (some (0, σ, τ)) else (some (1, σ, τ)))))
set_option maxHeartbeats 4000000 in
set_option maxRecDepth 100000 in
theorem b_X11_isLoad_0 (l : Launch) (S : CallFix P9 m9 C9 cX11_isLoad 2 s av.toArray gx_G RX11) (hr : meth.sig.returnType = (some .boolean)) (hlk : meth.locks = false) (hK : gx_K E s) (N : Nat) (σ : gI) (τ : gJ) (x0 : Int32) (x1 : Int32) {r : Int32} {σ1 : gI} {τ1 : gJ} (h : B_X11_isLoad_0 N σ τ x0 x1 = some (r, σ1, τ1)) {H : Heap} {locs : List Loc} {ls : Array Slot} (hw : gx_W gx_tb gx_tb.length E s σ τ H locs) (hl : lv_has ls 2 [(0, .int x0), (1, .int x1)]) : W P9 l e9 (gx_rm 0) s m9 av.toArray below meth C9 H locs 0 0 (gq_Qi below av s E r σ1 τ1) (F0 m9 0 ls []) := by
  have hx := S.1
  have hb := S.2.1
  unfold B_X11_isLoad_0 at h
  refine lv_iload_n hx hb dX11_isLoad_0 rfl (lv_at hl 0 rfl) ?_
  refine lv_if_lt (tgt := 24) hx hb dX11_isLoad_1 (by decide) (fun c_1 => ?_) (fun c_1 => ?_)
  · rw [if_pos c_1] at h
    refine lv_iconst (v := 0) hx hb dX11_isLoad_24 (by decide) ?_
    obtain ⟨rfl, rfl, rfl⟩ := sm_inj h
    exact gx_ri (post := gq_p 0 σ τ) (v := 0) S hr hlk hw rfl dX11_isLoad_25 ⟨rfl, rfl, rfl⟩
  · rw [if_neg c_1] at h
    refine lv_iload_n hx hb dX11_isLoad_4 rfl (lv_at hl 0 rfl) ?_
    refine lv_bipush (v := 99) hx hb dX11_isLoad_5 (by decide) ?_
    refine lv_icmp_gt (tgt := 24) hx hb dX11_isLoad_7 (by decide) (fun c_2 => ?_) (fun c_2 => ?_)
    · rw [if_pos c_2] at h
      refine lv_iconst (v := 0) hx hb dX11_isLoad_24 (by decide) ?_
      obtain ⟨rfl, rfl, rfl⟩ := sm_inj h
      exact gx_ri (post := gq_p 0 σ τ) (v := 0) S hr hlk hw rfl dX11_isLoad_25 ⟨rfl, rfl, rfl⟩
    · rw [if_neg c_2] at h
      refine lv_iload_n hx hb dX11_isLoad_10 rfl (lv_at hl 1 rfl) ?_
      refine lv_if_lt (tgt := 24) hx hb dX11_isLoad_11 (by decide) (fun c_3 => ?_) (fun c_3 => ?_)
      · rw [if_pos c_3] at h
        refine lv_iconst (v := 0) hx hb dX11_isLoad_24 (by decide) ?_
        obtain ⟨rfl, rfl, rfl⟩ := sm_inj h
        exact gx_ri (post := gq_p 0 σ τ) (v := 0) S hr hlk hw rfl dX11_isLoad_25 ⟨rfl, rfl, rfl⟩
      · rw [if_neg c_3] at h
        refine lv_iload_n hx hb dX11_isLoad_14 rfl (lv_at hl 1 rfl) ?_
        refine lv_bipush (v := 9) hx hb dX11_isLoad_15 (by decide) ?_
        refine lv_icmp_gt (tgt := 24) hx hb dX11_isLoad_17 (by decide) (fun c_4 => ?_) (fun c_4 => ?_)
        · rw [if_pos c_4] at h
          refine lv_iconst (v := 0) hx hb dX11_isLoad_24 (by decide) ?_
          obtain ⟨rfl, rfl, rfl⟩ := sm_inj h
          exact gx_ri (post := gq_p 0 σ τ) (v := 0) S hr hlk hw rfl dX11_isLoad_25 ⟨rfl, rfl, rfl⟩
        · rw [if_neg c_4] at h
          refine lv_iconst (v := 1) hx hb dX11_isLoad_20 (by decide) ?_
          refine lv_goto (tgt := 25) hx hb dX11_isLoad_21 (by decide) ?_
          obtain ⟨rfl, rfl, rfl⟩ := sm_inj h
          exact gx_ri (post := gq_p 1 σ τ) (v := 1) S hr hlk hw rfl dX11_isLoad_25 ⟨rfl, rfl, rfl⟩
set_option maxHeartbeats 4000000 in
set_option maxRecDepth 100000 in
theorem c_X11_isLoad (l : Launch) {E : gE} (N : Nat) (σ : gI) (τ : gJ) (x0 : Int32) (x1 : Int32) {r : Int32} {σ1 : gI} {τ1 : gJ} (h : B_X11_isLoad_0 N σ τ x0 x1 = some (r, σ1, τ1)) : gx_Mi l yX11_isLoad cX11_isLoad 2 (some .boolean) 0 gx_tb E σ τ [.int x0, .int x1] (gq_p r σ1 τ1) := by
  refine gx_bi (by decide +kernel) (Nat.le_of_ble_eq_true rfl) ?_
  intro P9 e9 s m9 below meth C9 S hr hlk hK hw ls hl
  have hl : lv_has ls 2 [(0, .int x0), (1, .int x1)] := hl
  exact b_X11_isLoad_0 l S hr hlk hK N σ τ x0 x1 h hw hl
/-! X8_isKitchen -/
def B_X8_isKitchen_0 (N : Nat) (σ : gI) (τ : gJ) (x1 : Int32) : Option (Int32 × gI × gJ) := if x1 < 0 then (some (0, σ, τ)) else (if 12 ≤ x1 then (some (0, σ, τ)) else (if ((σ 3 5) >>> (x1 &&& 31)) &&& 1 = 0 then (some (0, σ, τ)) else (some (1, σ, τ))))
set_option maxHeartbeats 4000000 in
set_option maxRecDepth 100000 in
theorem b_X8_isKitchen_0 (l : Launch) (S : CallFix P9 m9 C9 cX8_isKitchen 2 s av.toArray gx_G RX8) (hr : meth.sig.returnType = (some .boolean)) (hlk : meth.locks = false) (hK : gx_K E s) (N : Nat) (σ : gI) (τ : gJ) (x1 : Int32) {r : Int32} {σ1 : gI} {τ1 : gJ} (h : B_X8_isKitchen_0 N σ τ x1 = some (r, σ1, τ1)) {H : Heap} {locs : List Loc} {ls : Array Slot} (hw : gx_W gx_tb gx_tb.length E s σ τ H locs) (hl : lv_has ls 2 [(0, .ref (E.2.2 + 3)), (1, .int x1)]) : W P9 l e9 (gx_rm 0) s m9 av.toArray below meth C9 H locs 0 0 (gq_Qi below av s E r σ1 τ1) (F0 m9 0 ls []) := by
  have hx := S.1
  have hb := S.2.1
  unfold B_X8_isKitchen_0 at h
  refine lv_iload_n hx hb dX8_isKitchen_0 rfl (lv_at hl 1 rfl) ?_
  refine lv_if_lt (tgt := 25) hx hb dX8_isKitchen_1 (by decide) (fun c_1 => ?_) (fun c_1 => ?_)
  · rw [if_pos c_1] at h
    refine lv_iconst (v := 0) hx hb dX8_isKitchen_25 (by decide) ?_
    obtain ⟨rfl, rfl, rfl⟩ := sm_inj h
    exact gx_ri (post := gq_p 0 σ τ) (v := 0) S hr hlk hw rfl dX8_isKitchen_26 ⟨rfl, rfl, rfl⟩
  · rw [if_neg c_1] at h
    refine lv_iload_n hx hb dX8_isKitchen_4 rfl (lv_at hl 1 rfl) ?_
    refine lv_bipush (v := 12) hx hb dX8_isKitchen_5 (by decide) ?_
    refine lv_icmp_ge (tgt := 25) hx hb dX8_isKitchen_7 (by decide) (fun c_2 => ?_) (fun c_2 => ?_)
    · rw [if_pos c_2] at h
      refine lv_iconst (v := 0) hx hb dX8_isKitchen_25 (by decide) ?_
      obtain ⟨rfl, rfl, rfl⟩ := sm_inj h
      exact gx_ri (post := gq_p 0 σ τ) (v := 0) S hr hlk hw rfl dX8_isKitchen_26 ⟨rfl, rfl, rfl⟩
    · rw [if_neg c_2] at h
      refine lv_aload_n hx hb dX8_isKitchen_10 rfl (lv_at hl 0 rfl) ?_
      refine gx_get S hK hw t_3 cl_9 5 (by decide) rfl mw_153 rfl dX8_isKitchen_11 ?_
      refine lv_iload_n hx hb dX8_isKitchen_14 rfl (lv_at hl 1 rfl) ?_
      refine lv_ishr hx hb dX8_isKitchen_15 ?_
      refine lv_iconst (v := 1) hx hb dX8_isKitchen_16 (by decide) ?_
      refine lv_iand hx hb dX8_isKitchen_17 ?_
      refine lv_if_eq (tgt := 25) hx hb dX8_isKitchen_18 (by decide) (fun c_3 => ?_) (fun c_3 => ?_)
      · rw [if_pos c_3] at h
        refine lv_iconst (v := 0) hx hb dX8_isKitchen_25 (by decide) ?_
        obtain ⟨rfl, rfl, rfl⟩ := sm_inj h
        exact gx_ri (post := gq_p 0 σ τ) (v := 0) S hr hlk hw rfl dX8_isKitchen_26 ⟨rfl, rfl, rfl⟩
      · rw [if_neg c_3] at h
        refine lv_iconst (v := 1) hx hb dX8_isKitchen_21 (by decide) ?_
        refine lv_goto (tgt := 26) hx hb dX8_isKitchen_22 (by decide) ?_
        obtain ⟨rfl, rfl, rfl⟩ := sm_inj h
        exact gx_ri (post := gq_p 1 σ τ) (v := 1) S hr hlk hw rfl dX8_isKitchen_26 ⟨rfl, rfl, rfl⟩
set_option maxHeartbeats 4000000 in
set_option maxRecDepth 100000 in
theorem c_X8_isKitchen (l : Launch) {E : gE} (N : Nat) (σ : gI) (τ : gJ) (x1 : Int32) {r : Int32} {σ1 : gI} {τ1 : gJ} (h : B_X8_isKitchen_0 N σ τ x1 = some (r, σ1, τ1)) : gx_Mi l yX8_isKitchen cX8_isKitchen 2 (some .boolean) 0 gx_tb E σ τ [.ref (E.2.2 + 3), .int x1] (gq_p r σ1 τ1) := by
  refine gx_bi (by decide +kernel) (Nat.le_of_ble_eq_true rfl) ?_
  intro P9 e9 s m9 below meth C9 S hr hlk hK hw ls hl
  have hl : lv_has ls 2 [(0, .ref (E.2.2 + 3)), (1, .int x1)] := hl
  exact b_X8_isKitchen_0 l S hr hlk hK N σ τ x1 h hw hl
/-! X6_clear -/
def B_X6_clear_0 (N : Nat) (c : Nat) (σ : gI) (τ : gJ) : Option (Unit × gI × gJ) := nm (up2 σ c 6 0) fun σ_1 => nm (up2 σ_1 c 7 0) fun σ_2 => nm (up2 σ_2 c 8 0) fun σ_3 => nm (up2 σ_3 c 9 0) fun σ_4 => nm (up2 σ_4 c 10 0) fun σ_5 => some ((), σ_5, τ)
set_option maxHeartbeats 4000000 in
set_option maxRecDepth 100000 in
theorem b_X6_clear_0 (l : Launch) (S : CallFix P9 m9 C9 cX6_clear 1 s av.toArray gx_G RX6) (hr : meth.sig.returnType = none) (hlk : meth.locks = false) (hK : gx_K E s) (N : Nat) (c : Nat) (tc : gx_isS c) (σ : gI) (τ : gJ) {r : Unit} {σ1 : gI} {τ1 : gJ} (h : B_X6_clear_0 N c σ τ = some (r, σ1, τ1)) {H : Heap} {locs : List Loc} {ls : Array Slot} (hw : gx_W gx_tb gx_tb.length E s σ τ H locs) (hl : lv_has ls 1 [(0, .ref (E.2.2 + c))]) : W P9 l e9 (gx_rm 0) s m9 av.toArray below meth C9 H locs 0 0 (gq_Qv below av s E σ1 τ1) (F0 m9 0 ls []) := by
  have hx := S.1
  have hb := S.2.1
  unfold B_X6_clear_0 at h
  refine lv_aload_n hx hb dX6_clear_0 rfl (lv_at hl 0 rfl) ?_
  refine lv_iconst (v := 0) hx hb dX6_clear_1 (by decide) ?_
  refine gx_put S hK gx_ok hw tc.1 cl_7 6 (by decide) rfl mw_270 rfl rfl (ty := .int) (v := 0) (by decide +kernel) rfl rfl dX6_clear_2 (fun H locs hw => ?_)
  obtain ⟨σ_1, e_1, h⟩ := nm_some h
  rw [← e_1] at hw
  refine lv_aload_n hx hb dX6_clear_5 rfl (lv_at hl 0 rfl) ?_
  refine lv_iconst (v := 0) hx hb dX6_clear_6 (by decide) ?_
  refine gx_put S hK gx_ok hw tc.1 cl_7 7 (by decide) rfl mw_273 rfl rfl (ty := .int) (v := 0) (by decide +kernel) rfl rfl dX6_clear_7 (fun H locs hw => ?_)
  obtain ⟨σ_2, e_2, h⟩ := nm_some h
  rw [← e_2] at hw
  refine lv_aload_n hx hb dX6_clear_10 rfl (lv_at hl 0 rfl) ?_
  refine lv_iconst (v := 0) hx hb dX6_clear_11 (by decide) ?_
  refine gx_put S hK gx_ok hw tc.1 cl_7 8 (by decide) rfl mw_277 rfl rfl (ty := .int) (v := 0) (by decide +kernel) rfl rfl dX6_clear_12 (fun H locs hw => ?_)
  obtain ⟨σ_3, e_3, h⟩ := nm_some h
  rw [← e_3] at hw
  refine lv_aload_n hx hb dX6_clear_15 rfl (lv_at hl 0 rfl) ?_
  refine lv_iconst (v := 0) hx hb dX6_clear_16 (by decide) ?_
  refine gx_put S hK gx_ok hw tc.1 cl_7 9 (by decide) rfl mw_281 rfl rfl (ty := .int) (v := 0) (by decide +kernel) rfl rfl dX6_clear_17 (fun H locs hw => ?_)
  obtain ⟨σ_4, e_4, h⟩ := nm_some h
  rw [← e_4] at hw
  refine lv_aload_n hx hb dX6_clear_20 rfl (lv_at hl 0 rfl) ?_
  refine lv_iconst (v := 0) hx hb dX6_clear_21 (by decide) ?_
  refine gx_put S hK gx_ok hw tc.1 cl_7 10 (by decide) rfl mw_284 rfl rfl (ty := .int) (v := 0) (by decide +kernel) rfl rfl dX6_clear_22 (fun H locs hw => ?_)
  obtain ⟨σ_5, e_5, h⟩ := nm_some h
  rw [← e_5] at hw
  obtain ⟨-, rfl, rfl⟩ := sm_inj h
  exact gx_rv (post := gq_v σ_5 τ) S hr hlk hw dX6_clear_25 ⟨rfl, rfl⟩
set_option maxHeartbeats 4000000 in
set_option maxRecDepth 100000 in
theorem c_X6_clear (l : Launch) {E : gE} (N : Nat) (c : Nat) (tc : gx_isS c) (σ : gI) (τ : gJ) {r : Unit} {σ1 : gI} {τ1 : gJ} (h : B_X6_clear_0 N c σ τ = some (r, σ1, τ1)) : gx_Mv l yX6_clear cX6_clear 1 none 0 gx_tb E σ τ [.ref (E.2.2 + c)] (gq_v σ1 τ1) := by
  refine gx_bv (by decide +kernel) (Nat.le_of_ble_eq_true rfl) ?_
  intro P9 e9 s m9 below meth C9 S hr hlk hK hw ls hl
  have hl : lv_has ls 1 [(0, .ref (E.2.2 + c))] := hl
  exact b_X6_clear_0 l S hr hlk hK N c tc σ τ h hw hl
/-! X6_comeHome -/
def B_X6_comeHome_0 (N : Nat) (c : Nat) (σ : gI) (τ : gJ) (x1 : Int32) : Option (Unit × gI × gJ) := if x1 < 0 then (some ((), σ, τ)) else (if 6 ≤ x1 then (some ((), σ, τ)) else (nm (up2 σ c 9 ((σ c 9) ||| (1 <<< (x1 &&& 31)))) fun σ_3 => ck x1 6 fun j_4 => nm (up2 σ_3 (c + 6) j_4 (σ_3 c 8)) fun σ_5 => some ((), σ_5, τ)))
set_option maxHeartbeats 4000000 in
set_option maxRecDepth 100000 in
theorem b_X6_comeHome_0 (l : Launch) (S : CallFix P9 m9 C9 cX6_comeHome 2 s av.toArray gx_G RX6) (hr : meth.sig.returnType = none) (hlk : meth.locks = false) (hK : gx_K E s) (N : Nat) (c : Nat) (tc : gx_isS c) (σ : gI) (τ : gJ) (x1 : Int32) {r : Unit} {σ1 : gI} {τ1 : gJ} (h : B_X6_comeHome_0 N c σ τ x1 = some (r, σ1, τ1)) {H : Heap} {locs : List Loc} {ls : Array Slot} (hw : gx_W gx_tb gx_tb.length E s σ τ H locs) (hl : lv_has ls 2 [(0, .ref (E.2.2 + c)), (1, .int x1)]) : W P9 l e9 (gx_rm 0) s m9 av.toArray below meth C9 H locs 0 0 (gq_Qv below av s E σ1 τ1) (F0 m9 0 ls []) := by
  have hx := S.1
  have hb := S.2.1
  unfold B_X6_comeHome_0 at h
  refine lv_iload_n hx hb dX6_comeHome_0 rfl (lv_at hl 1 rfl) ?_
  refine lv_if_lt (tgt := 32) hx hb dX6_comeHome_1 (by decide) (fun c_1 => ?_) (fun c_1 => ?_)
  · rw [if_pos c_1] at h
    obtain ⟨-, rfl, rfl⟩ := sm_inj h
    exact gx_rv (post := gq_v σ τ) S hr hlk hw dX6_comeHome_32 ⟨rfl, rfl⟩
  · rw [if_neg c_1] at h
    refine lv_iload_n hx hb dX6_comeHome_4 rfl (lv_at hl 1 rfl) ?_
    refine lv_bipush (v := 6) hx hb dX6_comeHome_5 (by decide) ?_
    refine lv_icmp_ge (tgt := 32) hx hb dX6_comeHome_7 (by decide) (fun c_2 => ?_) (fun c_2 => ?_)
    · rw [if_pos c_2] at h
      obtain ⟨-, rfl, rfl⟩ := sm_inj h
      exact gx_rv (post := gq_v σ τ) S hr hlk hw dX6_comeHome_32 ⟨rfl, rfl⟩
    · rw [if_neg c_2] at h
      refine lv_aload_n hx hb dX6_comeHome_10 rfl (lv_at hl 0 rfl) ?_
      refine lv_dup hx hb dX6_comeHome_11 rfl ?_
      refine gx_get S hK hw tc.1 cl_7 9 (by decide) rfl mw_281 rfl dX6_comeHome_12 ?_
      refine lv_iconst (v := 1) hx hb dX6_comeHome_15 (by decide) ?_
      refine lv_iload_n hx hb dX6_comeHome_16 rfl (lv_at hl 1 rfl) ?_
      refine lv_ishl hx hb dX6_comeHome_17 ?_
      refine lv_ior hx hb dX6_comeHome_18 ?_
      refine gx_put S hK gx_ok hw tc.1 cl_7 9 (by decide) rfl mw_281 rfl rfl (ty := .int) (v := (σ c 9) ||| (1 <<< (x1 &&& 31))) (by decide +kernel) rfl rfl dX6_comeHome_19 (fun H locs hw => ?_)
      obtain ⟨σ_3, e_3, h⟩ := nm_some h
      rw [← e_3] at hw
      refine lv_aload_n hx hb dX6_comeHome_22 rfl (lv_at hl 0 rfl) ?_
      refine gx_getr (j := c + 6) S hK hw tc.1 cl_7 5 (by decide) rfl mw_269 rfl dX6_comeHome_23 ?_
      refine lv_iload_n hx hb dX6_comeHome_26 rfl (lv_at hl 1 rfl) ?_
      refine lv_aload_n hx hb dX6_comeHome_27 rfl (lv_at hl 0 rfl) ?_
      refine gx_get S hK hw tc.1 cl_7 8 (by decide) rfl mw_277 rfl dX6_comeHome_28 ?_
      obtain ⟨j_4, hj_4, hi_4, h⟩ := ck_some h
      refine gx_iast S hK gx_ok hw (iS_6 tc) j_4 hj_4 hi_4 dX6_comeHome_31 (fun H locs hw => ?_)
      obtain ⟨σ_5, e_5, h⟩ := nm_some h
      rw [← e_5] at hw
      obtain ⟨-, rfl, rfl⟩ := sm_inj h
      exact gx_rv (post := gq_v σ_5 τ) S hr hlk hw dX6_comeHome_32 ⟨rfl, rfl⟩
set_option maxHeartbeats 4000000 in
set_option maxRecDepth 100000 in
theorem c_X6_comeHome (l : Launch) {E : gE} (N : Nat) (c : Nat) (tc : gx_isS c) (σ : gI) (τ : gJ) (x1 : Int32) {r : Unit} {σ1 : gI} {τ1 : gJ} (h : B_X6_comeHome_0 N c σ τ x1 = some (r, σ1, τ1)) : gx_Mv l yX6_comeHome cX6_comeHome 2 none 0 gx_tb E σ τ [.ref (E.2.2 + c), .int x1] (gq_v σ1 τ1) := by
  refine gx_bv (by decide +kernel) (Nat.le_of_ble_eq_true rfl) ?_
  intro P9 e9 s m9 below meth C9 S hr hlk hK hw ls hl
  have hl : lv_has ls 2 [(0, .ref (E.2.2 + c)), (1, .int x1)] := hl
  exact b_X6_comeHome_0 l S hr hlk hK N c tc σ τ x1 h hw hl
/-! X6_add -/
def B_X6_add_0 (N : Nat) (c : Nat) (σ : gI) (τ : gJ) (x1 : Int32) (x2 : Int32) (x3 : Int32) (x4 : Int32) (x5 : Int32) : Option (Int32 × gI × gJ) := nm (σ c 6) fun v_1 => if v_1 < 0 then (some ((-2), σ, τ)) else (if v_1 < 6 then (ck v_1 6 fun j_4 => nm (up2 σ (c + 1) j_4 x1) fun σ_5 => nm (up2 σ_5 (c + 2) j_4 x2) fun σ_6 => nm (up2 σ_6 (c + 3) j_4 x3) fun σ_7 => nm (up2 σ_7 (c + 4) j_4 (1 <<< (x1 &&& 31))) fun σ_8 => nm (up2 σ_8 (c + 5) j_4 ((σ_8 c 8) + x4)) fun σ_9 => nm (up2 σ_9 (c + 6) j_4 (-1)) fun σ_10 => nm (up2 σ_10 c 6 ((σ_10 c 6) + 1)) fun σ_11 => if x5 = 0 then (some (v_1, σ_11, τ)) else (bd (B_X6_comeHome_0 N c σ_11 τ v_1) fun _ σ_13 τ_13 => some (v_1, σ_13, τ_13))) else (some ((-2), σ, τ)))
set_option maxHeartbeats 4000000 in
set_option maxRecDepth 100000 in
theorem b_X6_add_0 (l : Launch) (S : CallFix P9 m9 C9 cX6_add 7 s av.toArray gx_G RX6) (hr : meth.sig.returnType = (some .int)) (hlk : meth.locks = false) (hK : gx_K E s) (N : Nat) (c : Nat) (tc : gx_isS c) (σ : gI) (τ : gJ) (x1 : Int32) (x2 : Int32) (x3 : Int32) (x4 : Int32) (x5 : Int32) {r : Int32} {σ1 : gI} {τ1 : gJ} (h : B_X6_add_0 N c σ τ x1 x2 x3 x4 x5 = some (r, σ1, τ1)) {H : Heap} {locs : List Loc} {ls : Array Slot} (hw : gx_W gx_tb gx_tb.length E s σ τ H locs) (hl : lv_has ls 7 [(0, .ref (E.2.2 + c)), (1, .int x1), (2, .int x2), (3, .int x3), (4, .int x4), (5, .int x5)]) : W P9 l e9 (gx_rm 1) s m9 av.toArray below meth C9 H locs 0 0 (gq_Qi below av s E r σ1 τ1) (F0 m9 0 ls []) := by
  have hx := S.1
  have hb := S.2.1
  unfold B_X6_add_0 at h
  refine lv_aload_n hx hb dX6_add_0 rfl (lv_at hl 0 rfl) ?_
  refine gx_get S hK hw tc.1 cl_7 6 (by decide) rfl mw_270 rfl dX6_add_1 ?_
  refine lv_istore (lv' := [(6, .int (σ c 6)), (0, .ref (E.2.2 + c)), (1, .int x1), (2, .int x2), (3, .int x3), (4, .int x4), (5, .int x5)]) hx hb dX6_add_4 hl (by decide) rfl (fun ls hl => ?_)
  obtain ⟨v_1, e_1, h⟩ := nm_some h
  have hl : lv_has ls 7 [(6, .int v_1), (0, .ref (E.2.2 + c)), (1, .int x1), (2, .int x2), (3, .int x3), (4, .int x4), (5, .int x5)] := by rw [e_1]; exact hl
  refine lv_iload hx hb dX6_add_6 (lv_at hl 0 rfl) ?_
  refine lv_if_lt (tgt := 18) hx hb dX6_add_8 (by decide) (fun c_2 => ?_) (fun c_2 => ?_)
  · rw [if_pos c_2] at h
    refine lv_bipush (v := (-2)) hx hb dX6_add_18 (by decide) ?_
    obtain ⟨rfl, rfl, rfl⟩ := sm_inj h
    exact gx_ri (post := gq_p (-2) σ τ) (v := (-2)) S hr hlk hw rfl dX6_add_20 ⟨rfl, rfl, rfl⟩
  · rw [if_neg c_2] at h
    refine lv_iload hx hb dX6_add_11 (lv_at hl 0 rfl) ?_
    refine lv_bipush (v := 6) hx hb dX6_add_13 (by decide) ?_
    refine lv_icmp_lt (tgt := 21) hx hb dX6_add_15 (by decide) (fun c_3 => ?_) (fun c_3 => ?_)
    · rw [if_pos c_3] at h
      refine lv_aload_n hx hb dX6_add_21 rfl (lv_at hl 1 rfl) ?_
      refine gx_getr (j := c + 1) S hK hw tc.1 cl_7 0 (by decide) rfl mw_264 rfl dX6_add_22 ?_
      refine lv_iload hx hb dX6_add_25 (lv_at hl 0 rfl) ?_
      refine lv_iload_n hx hb dX6_add_27 rfl (lv_at hl 2 rfl) ?_
      obtain ⟨j_4, hj_4, hi_4, h⟩ := ck_some h
      refine gx_iast S hK gx_ok hw (iS_1 tc) j_4 hj_4 hi_4 dX6_add_28 (fun H locs hw => ?_)
      obtain ⟨σ_5, e_5, h⟩ := nm_some h
      rw [← e_5] at hw
      refine lv_aload_n hx hb dX6_add_29 rfl (lv_at hl 1 rfl) ?_
      refine gx_getr (j := c + 2) S hK hw tc.1 cl_7 1 (by decide) rfl mw_265 rfl dX6_add_30 ?_
      refine lv_iload hx hb dX6_add_33 (lv_at hl 0 rfl) ?_
      refine lv_iload_n hx hb dX6_add_35 rfl (lv_at hl 3 rfl) ?_
      refine gx_iast S hK gx_ok hw (iS_2 tc) j_4 hj_4 hi_4 dX6_add_36 (fun H locs hw => ?_)
      obtain ⟨σ_6, e_6, h⟩ := nm_some h
      rw [← e_6] at hw
      refine lv_aload_n hx hb dX6_add_37 rfl (lv_at hl 1 rfl) ?_
      refine gx_getr (j := c + 3) S hK hw tc.1 cl_7 2 (by decide) rfl mw_266 rfl dX6_add_38 ?_
      refine lv_iload hx hb dX6_add_41 (lv_at hl 0 rfl) ?_
      refine lv_iload_n hx hb dX6_add_43 rfl (lv_at hl 4 rfl) ?_
      refine gx_iast S hK gx_ok hw (iS_3 tc) j_4 hj_4 hi_4 dX6_add_44 (fun H locs hw => ?_)
      obtain ⟨σ_7, e_7, h⟩ := nm_some h
      rw [← e_7] at hw
      refine lv_aload_n hx hb dX6_add_45 rfl (lv_at hl 1 rfl) ?_
      refine gx_getr (j := c + 4) S hK hw tc.1 cl_7 3 (by decide) rfl mw_267 rfl dX6_add_46 ?_
      refine lv_iload hx hb dX6_add_49 (lv_at hl 0 rfl) ?_
      refine lv_iconst (v := 1) hx hb dX6_add_51 (by decide) ?_
      refine lv_iload_n hx hb dX6_add_52 rfl (lv_at hl 2 rfl) ?_
      refine lv_ishl hx hb dX6_add_53 ?_
      refine gx_iast S hK gx_ok hw (iS_4 tc) j_4 hj_4 hi_4 dX6_add_54 (fun H locs hw => ?_)
      obtain ⟨σ_8, e_8, h⟩ := nm_some h
      rw [← e_8] at hw
      refine lv_aload_n hx hb dX6_add_55 rfl (lv_at hl 1 rfl) ?_
      refine gx_getr (j := c + 5) S hK hw tc.1 cl_7 4 (by decide) rfl mw_268 rfl dX6_add_56 ?_
      refine lv_iload hx hb dX6_add_59 (lv_at hl 0 rfl) ?_
      refine lv_aload_n hx hb dX6_add_61 rfl (lv_at hl 1 rfl) ?_
      refine gx_get S hK hw tc.1 cl_7 8 (by decide) rfl mw_277 rfl dX6_add_62 ?_
      refine lv_iload hx hb dX6_add_65 (lv_at hl 5 rfl) ?_
      refine lv_iadd hx hb dX6_add_67 ?_
      refine gx_iast S hK gx_ok hw (iS_5 tc) j_4 hj_4 hi_4 dX6_add_68 (fun H locs hw => ?_)
      obtain ⟨σ_9, e_9, h⟩ := nm_some h
      rw [← e_9] at hw
      refine lv_aload_n hx hb dX6_add_69 rfl (lv_at hl 1 rfl) ?_
      refine gx_getr (j := c + 6) S hK hw tc.1 cl_7 5 (by decide) rfl mw_269 rfl dX6_add_70 ?_
      refine lv_iload hx hb dX6_add_73 (lv_at hl 0 rfl) ?_
      refine lv_iconst (v := (-1)) hx hb dX6_add_75 (by decide) ?_
      refine gx_iast S hK gx_ok hw (iS_6 tc) j_4 hj_4 hi_4 dX6_add_76 (fun H locs hw => ?_)
      obtain ⟨σ_10, e_10, h⟩ := nm_some h
      rw [← e_10] at hw
      refine lv_aload_n hx hb dX6_add_77 rfl (lv_at hl 1 rfl) ?_
      refine lv_dup hx hb dX6_add_78 rfl ?_
      refine gx_get S hK hw tc.1 cl_7 6 (by decide) rfl mw_270 rfl dX6_add_79 ?_
      refine lv_iconst (v := 1) hx hb dX6_add_82 (by decide) ?_
      refine lv_iadd hx hb dX6_add_83 ?_
      refine gx_put S hK gx_ok hw tc.1 cl_7 6 (by decide) rfl mw_270 rfl rfl (ty := .int) (v := (σ_10 c 6) + 1) (by decide +kernel) rfl rfl dX6_add_84 (fun H locs hw => ?_)
      obtain ⟨σ_11, e_11, h⟩ := nm_some h
      rw [← e_11] at hw
      refine lv_iload hx hb dX6_add_87 (lv_at hl 6 rfl) ?_
      refine lv_if_eq (tgt := 98) hx hb dX6_add_89 (by decide) (fun c_12 => ?_) (fun c_12 => ?_)
      · rw [if_pos c_12] at h
        refine lv_iload hx hb dX6_add_98 (lv_at hl 0 rfl) ?_
        obtain ⟨rfl, rfl, rfl⟩ := sm_inj h
        exact gx_ri (post := gq_p v_1 σ_11 τ) (v := v_1) S hr hlk hw rfl dX6_add_100 ⟨rfl, rfl, rfl⟩
      · rw [if_neg c_12] at h
        refine lv_aload_n hx hb dX6_add_92 rfl (lv_at hl 1 rfl) ?_
        refine lv_iload hx hb dX6_add_93 (lv_at hl 0 rfl) ?_
        obtain ⟨u_13, σ_13, τ_13, q_13, h⟩ := bd_some h
        refine gx_cVv (As := [.int v_1]) (rest := []) S hK gx_ok hw (c_X6_comeHome l (E := E) N c tc σ_11 τ v_1 q_13) cw_X6_52 tc.1 cl_7 ⟨Nat.le_of_ble_eq_true rfl, Nat.le_of_ble_eq_true rfl⟩ rfl hl.1 rfl (Nat.le_of_ble_eq_true rfl) ⟨Nat.le_of_ble_eq_true rfl, Nat.le_of_ble_eq_true rfl⟩ dX6_add_95 (fun σ9 τ9 H locs hp hw => ?_)
        obtain ⟨rfl, rfl⟩ := hp
        refine lv_iload hx hb dX6_add_98 (lv_at hl 0 rfl) ?_
        obtain ⟨rfl, rfl, rfl⟩ := sm_inj h
        exact gx_ri (post := gq_p v_1 σ_13 τ_13) (v := v_1) S hr hlk hw rfl dX6_add_100 ⟨rfl, rfl, rfl⟩
    · rw [if_neg c_3] at h
      refine lv_bipush (v := (-2)) hx hb dX6_add_18 (by decide) ?_
      obtain ⟨rfl, rfl, rfl⟩ := sm_inj h
      exact gx_ri (post := gq_p (-2) σ τ) (v := (-2)) S hr hlk hw rfl dX6_add_20 ⟨rfl, rfl, rfl⟩
set_option maxHeartbeats 4000000 in
set_option maxRecDepth 100000 in
theorem c_X6_add (l : Launch) {E : gE} (N : Nat) (c : Nat) (tc : gx_isS c) (σ : gI) (τ : gJ) (x1 : Int32) (x2 : Int32) (x3 : Int32) (x4 : Int32) (x5 : Int32) {r : Int32} {σ1 : gI} {τ1 : gJ} (h : B_X6_add_0 N c σ τ x1 x2 x3 x4 x5 = some (r, σ1, τ1)) : gx_Mi l yX6_add cX6_add 7 (some .int) 1 gx_tb E σ τ [.ref (E.2.2 + c), .int x1, .int x2, .int x3, .int x4, .int x5] (gq_p r σ1 τ1) := by
  refine gx_bi (by decide +kernel) (Nat.le_of_ble_eq_true rfl) ?_
  intro P9 e9 s m9 below meth C9 S hr hlk hK hw ls hl
  have hl : lv_has ls 7 [(0, .ref (E.2.2 + c)), (1, .int x1), (2, .int x2), (3, .int x3), (4, .int x4), (5, .int x5)] := hl
  exact b_X6_add_0 l S hr hlk hK N c tc σ τ x1 x2 x3 x4 x5 h hw hl
/-! X9_thinkOf -/
def B_X9_thinkOf_0 (N : Nat) (σ : gI) (τ : gJ) (x1 : Int32) (x2 : Int32) (x3 : Int32) (x4 : Int32) (x5 : Int32) : Option (Unit × gI × gJ) := bd (B_X6_clear_0 N 164 σ τ) fun _ σ_1 τ_1 => nm (up2 σ_1 164 8 x5) fun σ_2 => bd (B_X8_isKitchen_0 N σ_2 τ_1 x1) fun r_3 σ_3 τ_3 => bd (B_X6_add_0 N 164 σ_3 τ_3 x1 x2 x3 x4 r_3) fun r_4 σ_4 τ_4 => nm (up2 σ_4 160 5 1) fun σ_5 => nm (up2 σ_5 160 6 0) fun σ_6 => some ((), σ_6, τ_4)
set_option maxHeartbeats 4000000 in
set_option maxRecDepth 100000 in
theorem b_X9_thinkOf_0 (l : Launch) (S : CallFix P9 m9 C9 cX9_thinkOf 6 s av.toArray gx_G RX9) (hr : meth.sig.returnType = none) (hlk : meth.locks = false) (hK : gx_K E s) (N : Nat) (σ : gI) (τ : gJ) (x1 : Int32) (x2 : Int32) (x3 : Int32) (x4 : Int32) (x5 : Int32) {r : Unit} {σ1 : gI} {τ1 : gJ} (h : B_X9_thinkOf_0 N σ τ x1 x2 x3 x4 x5 = some (r, σ1, τ1)) {H : Heap} {locs : List Loc} {ls : Array Slot} (hw : gx_W gx_tb gx_tb.length E s σ τ H locs) (hl : lv_has ls 6 [(0, .ref (E.2.2 + 160)), (1, .int x1), (2, .int x2), (3, .int x3), (4, .int x4), (5, .int x5)]) : W P9 l e9 (gx_rm 2) s m9 av.toArray below meth C9 H locs 0 0 (gq_Qv below av s E σ1 τ1) (F0 m9 0 ls []) := by
  have hx := S.1
  have hb := S.2.1
  unfold B_X9_thinkOf_0 at h
  refine lv_aload_n hx hb dX9_thinkOf_0 rfl (lv_at hl 0 rfl) ?_
  refine gx_getr (j := 164) S hK hw t_160 cl_10 7 (by decide) rfl mw_423 rfl dX9_thinkOf_1 ?_
  obtain ⟨u_1, σ_1, τ_1, q_1, h⟩ := bd_some h
  refine gx_cVv (As := []) (rest := []) S hK gx_ok hw (c_X6_clear l (E := E) N 164 is_164 σ τ q_1) cw_X9_40 t_164 cl_7 ⟨Nat.le_of_ble_eq_true rfl, Nat.le_of_ble_eq_true rfl⟩ rfl hl.1 rfl (Nat.le_of_ble_eq_true rfl) ⟨Nat.le_of_ble_eq_true rfl, Nat.le_of_ble_eq_true rfl⟩ dX9_thinkOf_4 (fun σ9 τ9 H locs hp hw => ?_)
  obtain ⟨rfl, rfl⟩ := hp
  refine lv_aload_n hx hb dX9_thinkOf_7 rfl (lv_at hl 0 rfl) ?_
  refine gx_getr (j := 164) S hK hw t_160 cl_10 7 (by decide) rfl mw_423 rfl dX9_thinkOf_8 ?_
  refine lv_iload hx hb dX9_thinkOf_11 (lv_at hl 5 rfl) ?_
  refine gx_put S hK gx_ok hw t_164 cl_7 8 (by decide) rfl mw_278 rfl rfl (ty := .int) (v := x5) (by decide +kernel) rfl rfl dX9_thinkOf_13 (fun H locs hw => ?_)
  obtain ⟨σ_2, e_2, h⟩ := nm_some h
  rw [← e_2] at hw
  refine lv_aload_n hx hb dX9_thinkOf_16 rfl (lv_at hl 0 rfl) ?_
  refine gx_getr (j := 164) S hK hw t_160 cl_10 7 (by decide) rfl mw_423 rfl dX9_thinkOf_17 ?_
  refine lv_iload_n hx hb dX9_thinkOf_20 rfl (lv_at hl 1 rfl) ?_
  refine lv_iload_n hx hb dX9_thinkOf_21 rfl (lv_at hl 2 rfl) ?_
  refine lv_iload_n hx hb dX9_thinkOf_22 rfl (lv_at hl 3 rfl) ?_
  refine lv_iload hx hb dX9_thinkOf_23 (lv_at hl 4 rfl) ?_
  refine lv_aload_n hx hb dX9_thinkOf_25 rfl (lv_at hl 0 rfl) ?_
  refine gx_getr (j := 3) S hK hw t_160 cl_10 0 (by decide) rfl mw_416 rfl dX9_thinkOf_26 ?_
  refine lv_iload_n hx hb dX9_thinkOf_29 rfl (lv_at hl 1 rfl) ?_
  obtain ⟨r_3, σ_3, τ_3, q_3, h⟩ := bd_some h
  refine gx_cVi (As := [.int x1]) (rest := [.int x4, .int x3, .int x2, .int x1, .ref (E.2.2 + 164)]) S hK gx_ok hw (c_X8_isKitchen l (E := E) N σ_2 τ_1 x1 q_3) cw_X9_47 t_3 cl_9 ⟨Nat.le_of_ble_eq_true rfl, Nat.le_of_ble_eq_true rfl⟩ rfl hl.1 rfl (Nat.le_of_ble_eq_true rfl) ⟨Nat.le_of_ble_eq_true rfl, Nat.le_of_ble_eq_true rfl⟩ dX9_thinkOf_30 (fun r9 σ9 τ9 H locs hp hw => ?_)
  obtain ⟨rfl, rfl, rfl⟩ := hp
  obtain ⟨r_4, σ_4, τ_4, q_4, h⟩ := bd_some h
  refine gx_cVi (As := [.int x1, .int x2, .int x3, .int x4, .int r_3]) (rest := []) S hK gx_ok hw (c_X6_add l (E := E) N 164 is_164 σ_3 τ_3 x1 x2 x3 x4 r_3 q_4) cw_X9_53 t_164 cl_7 ⟨Nat.le_of_ble_eq_true rfl, Nat.le_of_ble_eq_true rfl⟩ rfl hl.1 rfl (Nat.le_of_ble_eq_true rfl) ⟨Nat.le_of_ble_eq_true rfl, Nat.le_of_ble_eq_true rfl⟩ dX9_thinkOf_33 (fun r9 σ9 τ9 H locs hp hw => ?_)
  obtain ⟨rfl, rfl, rfl⟩ := hp
  refine lv_pop hx hb dX9_thinkOf_36 rfl ?_
  refine lv_aload_n hx hb dX9_thinkOf_37 rfl (lv_at hl 0 rfl) ?_
  refine lv_iconst (v := 1) hx hb dX9_thinkOf_38 (by decide) ?_
  refine gx_put S hK gx_ok hw t_160 cl_10 5 (by decide) rfl mw_421 rfl rfl (ty := .int) (v := 1) (by decide +kernel) rfl rfl dX9_thinkOf_39 (fun H locs hw => ?_)
  obtain ⟨σ_5, e_5, h⟩ := nm_some h
  rw [← e_5] at hw
  refine lv_aload_n hx hb dX9_thinkOf_42 rfl (lv_at hl 0 rfl) ?_
  refine lv_iconst (v := 0) hx hb dX9_thinkOf_43 (by decide) ?_
  refine gx_put S hK gx_ok hw t_160 cl_10 6 (by decide) rfl mw_422 rfl rfl (ty := .int) (v := 0) (by decide +kernel) rfl rfl dX9_thinkOf_44 (fun H locs hw => ?_)
  obtain ⟨σ_6, e_6, h⟩ := nm_some h
  rw [← e_6] at hw
  obtain ⟨-, rfl, rfl⟩ := sm_inj h
  exact gx_rv (post := gq_v σ_6 τ_4) S hr hlk hw dX9_thinkOf_47 ⟨rfl, rfl⟩
set_option maxHeartbeats 4000000 in
set_option maxRecDepth 100000 in
theorem c_X9_thinkOf (l : Launch) {E : gE} (N : Nat) (σ : gI) (τ : gJ) (x1 : Int32) (x2 : Int32) (x3 : Int32) (x4 : Int32) (x5 : Int32) {r : Unit} {σ1 : gI} {τ1 : gJ} (h : B_X9_thinkOf_0 N σ τ x1 x2 x3 x4 x5 = some (r, σ1, τ1)) : gx_Mv l yX9_thinkOf cX9_thinkOf 6 none 2 gx_tb E σ τ [.ref (E.2.2 + 160), .int x1, .int x2, .int x3, .int x4, .int x5] (gq_v σ1 τ1) := by
  refine gx_bv (by decide +kernel) (Nat.le_of_ble_eq_true rfl) ?_
  intro P9 e9 s m9 below meth C9 S hr hlk hK hw ls hl
  have hl : lv_has ls 6 [(0, .ref (E.2.2 + 160)), (1, .int x1), (2, .int x2), (3, .int x3), (4, .int x4), (5, .int x5)] := hl
  exact b_X9_thinkOf_0 l S hr hlk hK N σ τ x1 x2 x3 x4 x5 h hw hl
/-! X9_begin -/
def B_X9_begin_0 (N : Nat) (σ : gI) (τ : gJ) (x1 : Int32) : Option (Unit × gI × gJ) := bd (B_X6_copy_0 N 171 164 σ τ) fun _ σ_1 τ_1 => nm (up2 σ_1 171 7 x1) fun σ_2 => nm (up2 σ_2 158 4 0) fun σ_3 => nm (up2 σ_3 158 5 0) fun σ_4 => some ((), σ_4, τ_1)
set_option maxHeartbeats 4000000 in
set_option maxRecDepth 100000 in
theorem b_X9_begin_0 (l : Launch) (S : CallFix P9 m9 C9 cX9_begin 2 s av.toArray gx_G RX9) (hr : meth.sig.returnType = none) (hlk : meth.locks = false) (hK : gx_K E s) (N : Nat) (σ : gI) (τ : gJ) (x1 : Int32) {r : Unit} {σ1 : gI} {τ1 : gJ} (h : B_X9_begin_0 N σ τ x1 = some (r, σ1, τ1)) {H : Heap} {locs : List Loc} {ls : Array Slot} (hw : gx_W gx_tb gx_tb.length E s σ τ H locs) (hl : lv_has ls 2 [(0, .ref (E.2.2 + 160)), (1, .int x1)]) : W P9 l e9 (gx_rm 1) s m9 av.toArray below meth C9 H locs 0 0 (gq_Qv below av s E σ1 τ1) (F0 m9 0 ls []) := by
  have hx := S.1
  have hb := S.2.1
  unfold B_X9_begin_0 at h
  refine lv_aload_n hx hb dX9_begin_0 rfl (lv_at hl 0 rfl) ?_
  refine gx_getr (j := 171) S hK hw t_160 cl_10 8 (by decide) rfl mw_425 rfl dX9_begin_1 ?_
  refine lv_aload_n hx hb dX9_begin_4 rfl (lv_at hl 0 rfl) ?_
  refine gx_getr (j := 164) S hK hw t_160 cl_10 7 (by decide) rfl mw_423 rfl dX9_begin_5 ?_
  obtain ⟨u_1, σ_1, τ_1, q_1, h⟩ := bd_some h
  refine gx_cVv (As := [.ref (E.2.2 + 164)]) (rest := []) S hK gx_ok hw (c_X6_copy l (E := E) N 171 164 is_171 is_164 σ τ q_1) cw_X9_63 t_171 cl_7 ⟨Nat.le_of_ble_eq_true rfl, Nat.le_of_ble_eq_true rfl⟩ rfl hl.1 rfl (Nat.le_of_ble_eq_true rfl) ⟨Nat.le_of_ble_eq_true rfl, Nat.le_of_ble_eq_true rfl⟩ dX9_begin_8 (fun σ9 τ9 H locs hp hw => ?_)
  obtain ⟨rfl, rfl⟩ := hp
  refine lv_aload_n hx hb dX9_begin_11 rfl (lv_at hl 0 rfl) ?_
  refine gx_getr (j := 171) S hK hw t_160 cl_10 8 (by decide) rfl mw_425 rfl dX9_begin_12 ?_
  refine lv_iload_n hx hb dX9_begin_15 rfl (lv_at hl 1 rfl) ?_
  refine gx_put S hK gx_ok hw t_171 cl_7 7 (by decide) rfl mw_274 rfl rfl (ty := .int) (v := x1) (by decide +kernel) rfl rfl dX9_begin_16 (fun H locs hw => ?_)
  obtain ⟨σ_2, e_2, h⟩ := nm_some h
  rw [← e_2] at hw
  refine lv_aload_n hx hb dX9_begin_19 rfl (lv_at hl 0 rfl) ?_
  refine gx_getr (j := 158) S hK hw t_160 cl_10 1 (by decide) rfl mw_417 rfl dX9_begin_20 ?_
  refine lv_iconst (v := 0) hx hb dX9_begin_23 (by decide) ?_
  refine gx_put S hK gx_ok hw t_158 cl_2 4 (by decide) rfl mw_375 rfl rfl (ty := .int) (v := 0) (by decide +kernel) rfl rfl dX9_begin_24 (fun H locs hw => ?_)
  obtain ⟨σ_3, e_3, h⟩ := nm_some h
  rw [← e_3] at hw
  refine lv_aload_n hx hb dX9_begin_27 rfl (lv_at hl 0 rfl) ?_
  refine gx_getr (j := 158) S hK hw t_160 cl_10 1 (by decide) rfl mw_417 rfl dX9_begin_28 ?_
  refine lv_iconst (v := 0) hx hb dX9_begin_31 (by decide) ?_
  refine gx_put S hK gx_ok hw t_158 cl_2 5 (by decide) rfl mw_377 rfl rfl (ty := .int) (v := 0) (by decide +kernel) rfl rfl dX9_begin_32 (fun H locs hw => ?_)
  obtain ⟨σ_4, e_4, h⟩ := nm_some h
  rw [← e_4] at hw
  obtain ⟨-, rfl, rfl⟩ := sm_inj h
  exact gx_rv (post := gq_v σ_4 τ_1) S hr hlk hw dX9_begin_35 ⟨rfl, rfl⟩
set_option maxHeartbeats 4000000 in
set_option maxRecDepth 100000 in
theorem c_X9_begin (l : Launch) {E : gE} (N : Nat) (σ : gI) (τ : gJ) (x1 : Int32) {r : Unit} {σ1 : gI} {τ1 : gJ} (h : B_X9_begin_0 N σ τ x1 = some (r, σ1, τ1)) : gx_Mv l yX9_begin cX9_begin 2 none 1 gx_tb E σ τ [.ref (E.2.2 + 160), .int x1] (gq_v σ1 τ1) := by
  refine gx_bv (by decide +kernel) (Nat.le_of_ble_eq_true rfl) ?_
  intro P9 e9 s m9 below meth C9 S hr hlk hK hw ls hl
  have hl : lv_has ls 2 [(0, .ref (E.2.2 + 160)), (1, .int x1)] := hl
  exact b_X9_begin_0 l S hr hlk hK N σ τ x1 h hw hl
/-! X6_spotOf -/
def B_X6_spotOf_0 (N : Nat) (c : Nat) (σ : gI) (τ : gJ) (x1 : Int32) : Option (Int32 × gI × gJ) := if x1 < 0 then (some ((-1), σ, τ)) else (if 6 ≤ x1 then (some ((-1), σ, τ)) else (ck x1 6 fun j_3 => some (σ (c + 1) j_3, σ, τ)))
set_option maxHeartbeats 4000000 in
set_option maxRecDepth 100000 in
theorem b_X6_spotOf_0 (l : Launch) (S : CallFix P9 m9 C9 cX6_spotOf 2 s av.toArray gx_G RX6) (hr : meth.sig.returnType = (some .int)) (hlk : meth.locks = false) (hK : gx_K E s) (N : Nat) (c : Nat) (tc : gx_isS c) (σ : gI) (τ : gJ) (x1 : Int32) {r : Int32} {σ1 : gI} {τ1 : gJ} (h : B_X6_spotOf_0 N c σ τ x1 = some (r, σ1, τ1)) {H : Heap} {locs : List Loc} {ls : Array Slot} (hw : gx_W gx_tb gx_tb.length E s σ τ H locs) (hl : lv_has ls 2 [(0, .ref (E.2.2 + c)), (1, .int x1)]) : W P9 l e9 (gx_rm 0) s m9 av.toArray below meth C9 H locs 0 0 (gq_Qi below av s E r σ1 τ1) (F0 m9 0 ls []) := by
  have hx := S.1
  have hb := S.2.1
  unfold B_X6_spotOf_0 at h
  refine lv_iload_n hx hb dX6_spotOf_0 rfl (lv_at hl 1 rfl) ?_
  refine lv_if_lt (tgt := 19) hx hb dX6_spotOf_1 (by decide) (fun c_1 => ?_) (fun c_1 => ?_)
  · rw [if_pos c_1] at h
    refine lv_iconst (v := (-1)) hx hb dX6_spotOf_19 (by decide) ?_
    obtain ⟨rfl, rfl, rfl⟩ := sm_inj h
    exact gx_ri (post := gq_p (-1) σ τ) (v := (-1)) S hr hlk hw rfl dX6_spotOf_20 ⟨rfl, rfl, rfl⟩
  · rw [if_neg c_1] at h
    refine lv_iload_n hx hb dX6_spotOf_4 rfl (lv_at hl 1 rfl) ?_
    refine lv_bipush (v := 6) hx hb dX6_spotOf_5 (by decide) ?_
    refine lv_icmp_ge (tgt := 19) hx hb dX6_spotOf_7 (by decide) (fun c_2 => ?_) (fun c_2 => ?_)
    · rw [if_pos c_2] at h
      refine lv_iconst (v := (-1)) hx hb dX6_spotOf_19 (by decide) ?_
      obtain ⟨rfl, rfl, rfl⟩ := sm_inj h
      exact gx_ri (post := gq_p (-1) σ τ) (v := (-1)) S hr hlk hw rfl dX6_spotOf_20 ⟨rfl, rfl, rfl⟩
    · rw [if_neg c_2] at h
      refine lv_aload_n hx hb dX6_spotOf_10 rfl (lv_at hl 0 rfl) ?_
      refine gx_getr (j := c + 1) S hK hw tc.1 cl_7 0 (by decide) rfl mw_264 rfl dX6_spotOf_11 ?_
      refine lv_iload_n hx hb dX6_spotOf_14 rfl (lv_at hl 1 rfl) ?_
      obtain ⟨j_3, hj_3, hi_3, h⟩ := ck_some h
      refine gx_iald S hK hw (iS_1 tc) j_3 hj_3 hi_3 dX6_spotOf_15 ?_
      refine lv_goto (tgt := 20) hx hb dX6_spotOf_16 (by decide) ?_
      obtain ⟨rfl, rfl, rfl⟩ := sm_inj h
      exact gx_ri (post := gq_p (σ (c + 1) j_3) σ τ) (v := σ (c + 1) j_3) S hr hlk hw rfl dX6_spotOf_20 ⟨rfl, rfl, rfl⟩
set_option maxHeartbeats 4000000 in
set_option maxRecDepth 100000 in
theorem c_X6_spotOf (l : Launch) {E : gE} (N : Nat) (c : Nat) (tc : gx_isS c) (σ : gI) (τ : gJ) (x1 : Int32) {r : Int32} {σ1 : gI} {τ1 : gJ} (h : B_X6_spotOf_0 N c σ τ x1 = some (r, σ1, τ1)) : gx_Mi l yX6_spotOf cX6_spotOf 2 (some .int) 0 gx_tb E σ τ [.ref (E.2.2 + c), .int x1] (gq_p r σ1 τ1) := by
  refine gx_bi (by decide +kernel) (Nat.le_of_ble_eq_true rfl) ?_
  intro P9 e9 s m9 below meth C9 S hr hlk hK hw ls hl
  have hl : lv_has ls 2 [(0, .ref (E.2.2 + c)), (1, .int x1)] := hl
  exact b_X6_spotOf_0 l S hr hlk hK N c tc σ τ x1 h hw hl
/-! X1_flowIn -/
def B_X1_flowIn_54 (N : Nat) (σ : gI) (τ : gJ) (x2 : Int32) (y0 : Int32) : Option (Int32 × gI × gJ) := if y0 = 0 then (some (x2, σ, τ)) else (some (imin 3 (x2 + 1), σ, τ))
def B_X1_flowIn_0 (N : Nat) (σ : gI) (τ : gJ) (x1 : Int32) : Option (Int32 × gI × gJ) := bd (B_X10_in_0 N σ τ x1) fun r_1 σ_1 τ_1 => if σ_1 158 8 = 0 then (some (r_1, σ_1, τ_1)) else (nm ((x1 / 10) - (σ_1 158 9)) fun v_3 => if v_3 < 0 then (B_X1_flowIn_54 N σ_1 τ_1 r_1 0) else (if 31 ≤ v_3 then (B_X1_flowIn_54 N σ_1 τ_1 r_1 0) else (if ((σ_1 158 8) >>> (v_3 &&& 31)) &&& 1 = 0 then (B_X1_flowIn_54 N σ_1 τ_1 r_1 0) else (B_X1_flowIn_54 N σ_1 τ_1 r_1 1))))
set_option maxHeartbeats 4000000 in
set_option maxRecDepth 100000 in
theorem b_X1_flowIn_54 (l : Launch) (S : CallFix P9 m9 C9 cX1_flowIn 5 s av.toArray gx_G RX1) (hr : meth.sig.returnType = (some .int)) (hlk : meth.locks = false) (hK : gx_K E s) (N : Nat) (σ : gI) (τ : gJ) (x2 : Int32) (y0 : Int32) {r : Int32} {σ1 : gI} {τ1 : gJ} (h : B_X1_flowIn_54 N σ τ x2 y0 = some (r, σ1, τ1)) {H : Heap} {locs : List Loc} {ls : Array Slot} (hw : gx_W gx_tb gx_tb.length E s σ τ H locs) (hl : lv_has ls 5 [(2, .int x2)]) : W P9 l e9 (gx_rm 1) s m9 av.toArray below meth C9 H locs 0 0 (gq_Qi below av s E r σ1 τ1) (F0 m9 54 ls [.int y0]) := by
  have hx := S.1
  have hb := S.2.1
  unfold B_X1_flowIn_54 at h
  refine lv_istore (lv' := [(4, .int y0), (2, .int x2)]) hx hb dX1_flowIn_54 hl (by decide) rfl (fun ls hl => ?_)
  refine lv_iload hx hb dX1_flowIn_56 (lv_at hl 0 rfl) ?_
  refine lv_if_eq (tgt := 71) hx hb dX1_flowIn_58 (by decide) (fun c_1 => ?_) (fun c_1 => ?_)
  · rw [if_pos c_1] at h
    refine lv_iload_n hx hb dX1_flowIn_71 rfl (lv_at hl 1 rfl) ?_
    obtain ⟨rfl, rfl, rfl⟩ := sm_inj h
    exact gx_ri (post := gq_p x2 σ τ) (v := x2) S hr hlk hw rfl dX1_flowIn_72 ⟨rfl, rfl, rfl⟩
  · rw [if_neg c_1] at h
    refine lv_iconst (v := 3) hx hb dX1_flowIn_61 (by decide) ?_
    refine lv_iload_n hx hb dX1_flowIn_62 rfl (lv_at hl 1 rfl) ?_
    refine lv_iconst (v := 1) hx hb dX1_flowIn_63 (by decide) ?_
    refine lv_iadd hx hb dX1_flowIn_64 ?_
    refine gx_min (w := imin 3 (x2 + 1)) S hl.1 mw_850 mw_529 mw_102 mw_530 ⟨Nat.le_of_ble_eq_true rfl, Nat.le_of_ble_eq_true rfl⟩ ⟨Nat.le_of_ble_eq_true rfl, Nat.le_of_ble_eq_true rfl⟩ dX1_flowIn_65 rfl ?_
    refine lv_goto (tgt := 72) hx hb dX1_flowIn_68 (by decide) ?_
    obtain ⟨rfl, rfl, rfl⟩ := sm_inj h
    exact gx_ri (post := gq_p (imin 3 (x2 + 1)) σ τ) (v := imin 3 (x2 + 1)) S hr hlk hw rfl dX1_flowIn_72 ⟨rfl, rfl, rfl⟩
set_option maxHeartbeats 4000000 in
set_option maxRecDepth 100000 in
theorem b_X1_flowIn_0 (l : Launch) (S : CallFix P9 m9 C9 cX1_flowIn 5 s av.toArray gx_G RX1) (hr : meth.sig.returnType = (some .int)) (hlk : meth.locks = false) (hK : gx_K E s) (N : Nat) (σ : gI) (τ : gJ) (x1 : Int32) {r : Int32} {σ1 : gI} {τ1 : gJ} (h : B_X1_flowIn_0 N σ τ x1 = some (r, σ1, τ1)) {H : Heap} {locs : List Loc} {ls : Array Slot} (hw : gx_W gx_tb gx_tb.length E s σ τ H locs) (hl : lv_has ls 5 [(0, .ref (E.2.2 + 158)), (1, .int x1)]) : W P9 l e9 (gx_rm 1) s m9 av.toArray below meth C9 H locs 0 0 (gq_Qi below av s E r σ1 τ1) (F0 m9 0 ls []) := by
  have hx := S.1
  have hb := S.2.1
  unfold B_X1_flowIn_0 at h
  refine lv_aload_n hx hb dX1_flowIn_0 rfl (lv_at hl 0 rfl) ?_
  refine gx_getr (j := 15) S hK hw t_158 cl_2 1 (by decide) rfl mw_372 rfl dX1_flowIn_1 ?_
  refine lv_iload_n hx hb dX1_flowIn_4 rfl (lv_at hl 1 rfl) ?_
  obtain ⟨r_1, σ_1, τ_1, q_1, h⟩ := bd_some h
  refine gx_cVi (As := [.int x1]) (rest := []) S hK gx_ok hw (c_X10_in l (E := E) N σ τ x1 q_1) cw_X1_33 t_15 cl_11 ⟨Nat.le_of_ble_eq_true rfl, Nat.le_of_ble_eq_true rfl⟩ rfl hl.1 rfl (Nat.le_of_ble_eq_true rfl) ⟨Nat.le_of_ble_eq_true rfl, Nat.le_of_ble_eq_true rfl⟩ dX1_flowIn_5 (fun r9 σ9 τ9 H locs hp hw => ?_)
  obtain ⟨rfl, rfl, rfl⟩ := hp
  refine lv_istore_n (lv' := [(2, .int r_1), (0, .ref (E.2.2 + 158)), (1, .int x1)]) hx hb dX1_flowIn_8 rfl hl (by decide) rfl (fun ls hl => ?_)
  refine lv_aload_n hx hb dX1_flowIn_9 rfl (lv_at hl 1 rfl) ?_
  refine gx_get S hK hw t_158 cl_2 8 (by decide) rfl mw_383 rfl dX1_flowIn_10 ?_
  refine lv_if_ne (tgt := 18) hx hb dX1_flowIn_13 (by decide) (fun c_2 => ?_) (fun c_2 => ?_)
  · rw [if_neg c_2] at h
    refine lv_iload_n hx hb dX1_flowIn_18 rfl (lv_at hl 2 rfl) ?_
    refine lv_bipush (v := 10) hx hb dX1_flowIn_19 (by decide) ?_
    refine lv_idiv hx hb dX1_flowIn_21 (by decide) ?_
    refine lv_aload_n hx hb dX1_flowIn_22 rfl (lv_at hl 1 rfl) ?_
    refine gx_get S hK hw t_158 cl_2 9 (by decide) rfl mw_385 rfl dX1_flowIn_23 ?_
    refine lv_isub hx hb dX1_flowIn_26 ?_
    refine lv_istore_n (lv' := [(3, .int ((x1 / 10) - (σ_1 158 9))), (2, .int r_1), (0, .ref (E.2.2 + 158)), (1, .int x1)]) hx hb dX1_flowIn_27 rfl hl (by decide) rfl (fun ls hl => ?_)
    obtain ⟨v_3, e_3, h⟩ := nm_some h
    have hl : lv_has ls 5 [(3, .int v_3), (2, .int r_1), (0, .ref (E.2.2 + 158)), (1, .int x1)] := by rw [e_3]; exact hl
    refine lv_iload_n hx hb dX1_flowIn_28 rfl (lv_at hl 0 rfl) ?_
    refine lv_if_lt (tgt := 53) hx hb dX1_flowIn_29 (by decide) (fun c_4 => ?_) (fun c_4 => ?_)
    · rw [if_pos c_4] at h
      refine lv_iconst (v := 0) hx hb dX1_flowIn_53 (by decide) ?_
      exact b_X1_flowIn_54 l S hr hlk hK N σ_1 τ_1 r_1 0 h hw (lv_sub hl [1] rfl)
    · rw [if_neg c_4] at h
      refine lv_iload_n hx hb dX1_flowIn_32 rfl (lv_at hl 0 rfl) ?_
      refine lv_bipush (v := 31) hx hb dX1_flowIn_33 (by decide) ?_
      refine lv_icmp_ge (tgt := 53) hx hb dX1_flowIn_35 (by decide) (fun c_5 => ?_) (fun c_5 => ?_)
      · rw [if_pos c_5] at h
        refine lv_iconst (v := 0) hx hb dX1_flowIn_53 (by decide) ?_
        exact b_X1_flowIn_54 l S hr hlk hK N σ_1 τ_1 r_1 0 h hw (lv_sub hl [1] rfl)
      · rw [if_neg c_5] at h
        refine lv_aload_n hx hb dX1_flowIn_38 rfl (lv_at hl 2 rfl) ?_
        refine gx_get S hK hw t_158 cl_2 8 (by decide) rfl mw_383 rfl dX1_flowIn_39 ?_
        refine lv_iload_n hx hb dX1_flowIn_42 rfl (lv_at hl 0 rfl) ?_
        refine lv_ishr hx hb dX1_flowIn_43 ?_
        refine lv_iconst (v := 1) hx hb dX1_flowIn_44 (by decide) ?_
        refine lv_iand hx hb dX1_flowIn_45 ?_
        refine lv_if_eq (tgt := 53) hx hb dX1_flowIn_46 (by decide) (fun c_6 => ?_) (fun c_6 => ?_)
        · rw [if_pos c_6] at h
          refine lv_iconst (v := 0) hx hb dX1_flowIn_53 (by decide) ?_
          exact b_X1_flowIn_54 l S hr hlk hK N σ_1 τ_1 r_1 0 h hw (lv_sub hl [1] rfl)
        · rw [if_neg c_6] at h
          refine lv_iconst (v := 1) hx hb dX1_flowIn_49 (by decide) ?_
          refine lv_goto (tgt := 54) hx hb dX1_flowIn_50 (by decide) ?_
          exact b_X1_flowIn_54 l S hr hlk hK N σ_1 τ_1 r_1 1 h hw (lv_sub hl [1] rfl)
  · rw [if_pos c_2] at h
    refine lv_iload_n hx hb dX1_flowIn_16 rfl (lv_at hl 0 rfl) ?_
    obtain ⟨rfl, rfl, rfl⟩ := sm_inj h
    exact gx_ri (post := gq_p r_1 σ_1 τ_1) (v := r_1) S hr hlk hw rfl dX1_flowIn_17 ⟨rfl, rfl, rfl⟩
set_option maxHeartbeats 4000000 in
set_option maxRecDepth 100000 in
theorem c_X1_flowIn (l : Launch) {E : gE} (N : Nat) (σ : gI) (τ : gJ) (x1 : Int32) {r : Int32} {σ1 : gI} {τ1 : gJ} (h : B_X1_flowIn_0 N σ τ x1 = some (r, σ1, τ1)) : gx_Mi l yX1_flowIn cX1_flowIn 5 (some .int) 1 gx_tb E σ τ [.ref (E.2.2 + 158), .int x1] (gq_p r σ1 τ1) := by
  refine gx_bi (by decide +kernel) (Nat.le_of_ble_eq_true rfl) ?_
  intro P9 e9 s m9 below meth C9 S hr hlk hK hw ls hl
  have hl : lv_has ls 5 [(0, .ref (E.2.2 + 158)), (1, .int x1)] := hl
  exact b_X1_flowIn_0 l S hr hlk hK N σ τ x1 h hw hl
/-! X6_isAfloat -/
def B_X6_isAfloat_28 (N : Nat) (c : Nat) (σ : gI) (τ : gJ) (x1 : Int32) (y0 : Int32) : Option (Int32 × gI × gJ) := if y0 = 0 then (some (0, σ, τ)) else (if (((σ c 9) ||| (σ c 10)) >>> (x1 &&& 31)) &&& 1 = 0 then (some (1, σ, τ)) else (some (0, σ, τ)))
def B_X6_isAfloat_0 (N : Nat) (c : Nat) (σ : gI) (τ : gJ) (x1 : Int32) : Option (Int32 × gI × gJ) := if x1 < 0 then (B_X6_isAfloat_28 N c σ τ x1 0) else (if 6 ≤ x1 then (B_X6_isAfloat_28 N c σ τ x1 0) else (ck x1 6 fun j_3 => if σ c 8 < σ (c + 5) j_3 then (B_X6_isAfloat_28 N c σ τ x1 0) else (B_X6_isAfloat_28 N c σ τ x1 1)))
set_option maxHeartbeats 4000000 in
set_option maxRecDepth 100000 in
theorem b_X6_isAfloat_28 (l : Launch) (S : CallFix P9 m9 C9 cX6_isAfloat 3 s av.toArray gx_G RX6) (hr : meth.sig.returnType = (some .boolean)) (hlk : meth.locks = false) (hK : gx_K E s) (N : Nat) (c : Nat) (tc : gx_isS c) (σ : gI) (τ : gJ) (x1 : Int32) (y0 : Int32) {r : Int32} {σ1 : gI} {τ1 : gJ} (h : B_X6_isAfloat_28 N c σ τ x1 y0 = some (r, σ1, τ1)) {H : Heap} {locs : List Loc} {ls : Array Slot} (hw : gx_W gx_tb gx_tb.length E s σ τ H locs) (hl : lv_has ls 3 [(0, .ref (E.2.2 + c)), (1, .int x1)]) : W P9 l e9 (gx_rm 0) s m9 av.toArray below meth C9 H locs 0 0 (gq_Qi below av s E r σ1 τ1) (F0 m9 28 ls [.int y0]) := by
  have hx := S.1
  have hb := S.2.1
  unfold B_X6_isAfloat_28 at h
  refine lv_istore_n (lv' := [(2, .int y0), (0, .ref (E.2.2 + c)), (1, .int x1)]) hx hb dX6_isAfloat_28 rfl hl (by decide) rfl (fun ls hl => ?_)
  refine lv_iload_n hx hb dX6_isAfloat_29 rfl (lv_at hl 0 rfl) ?_
  refine lv_if_eq (tgt := 53) hx hb dX6_isAfloat_30 (by decide) (fun c_1 => ?_) (fun c_1 => ?_)
  · rw [if_pos c_1] at h
    refine lv_iconst (v := 0) hx hb dX6_isAfloat_53 (by decide) ?_
    obtain ⟨rfl, rfl, rfl⟩ := sm_inj h
    exact gx_ri (post := gq_p 0 σ τ) (v := 0) S hr hlk hw rfl dX6_isAfloat_54 ⟨rfl, rfl, rfl⟩
  · rw [if_neg c_1] at h
    refine lv_aload_n hx hb dX6_isAfloat_33 rfl (lv_at hl 1 rfl) ?_
    refine gx_get S hK hw tc.1 cl_7 9 (by decide) rfl mw_281 rfl dX6_isAfloat_34 ?_
    refine lv_aload_n hx hb dX6_isAfloat_37 rfl (lv_at hl 1 rfl) ?_
    refine gx_get S hK hw tc.1 cl_7 10 (by decide) rfl mw_284 rfl dX6_isAfloat_38 ?_
    refine lv_ior hx hb dX6_isAfloat_41 ?_
    refine lv_iload_n hx hb dX6_isAfloat_42 rfl (lv_at hl 2 rfl) ?_
    refine lv_ishr hx hb dX6_isAfloat_43 ?_
    refine lv_iconst (v := 1) hx hb dX6_isAfloat_44 (by decide) ?_
    refine lv_iand hx hb dX6_isAfloat_45 ?_
    refine lv_if_ne (tgt := 53) hx hb dX6_isAfloat_46 (by decide) (fun c_2 => ?_) (fun c_2 => ?_)
    · rw [if_neg c_2] at h
      refine lv_iconst (v := 0) hx hb dX6_isAfloat_53 (by decide) ?_
      obtain ⟨rfl, rfl, rfl⟩ := sm_inj h
      exact gx_ri (post := gq_p 0 σ τ) (v := 0) S hr hlk hw rfl dX6_isAfloat_54 ⟨rfl, rfl, rfl⟩
    · rw [if_pos c_2] at h
      refine lv_iconst (v := 1) hx hb dX6_isAfloat_49 (by decide) ?_
      refine lv_goto (tgt := 54) hx hb dX6_isAfloat_50 (by decide) ?_
      obtain ⟨rfl, rfl, rfl⟩ := sm_inj h
      exact gx_ri (post := gq_p 1 σ τ) (v := 1) S hr hlk hw rfl dX6_isAfloat_54 ⟨rfl, rfl, rfl⟩
set_option maxHeartbeats 4000000 in
set_option maxRecDepth 100000 in
theorem b_X6_isAfloat_0 (l : Launch) (S : CallFix P9 m9 C9 cX6_isAfloat 3 s av.toArray gx_G RX6) (hr : meth.sig.returnType = (some .boolean)) (hlk : meth.locks = false) (hK : gx_K E s) (N : Nat) (c : Nat) (tc : gx_isS c) (σ : gI) (τ : gJ) (x1 : Int32) {r : Int32} {σ1 : gI} {τ1 : gJ} (h : B_X6_isAfloat_0 N c σ τ x1 = some (r, σ1, τ1)) {H : Heap} {locs : List Loc} {ls : Array Slot} (hw : gx_W gx_tb gx_tb.length E s σ τ H locs) (hl : lv_has ls 3 [(0, .ref (E.2.2 + c)), (1, .int x1)]) : W P9 l e9 (gx_rm 0) s m9 av.toArray below meth C9 H locs 0 0 (gq_Qi below av s E r σ1 τ1) (F0 m9 0 ls []) := by
  have hx := S.1
  have hb := S.2.1
  unfold B_X6_isAfloat_0 at h
  refine lv_iload_n hx hb dX6_isAfloat_0 rfl (lv_at hl 1 rfl) ?_
  refine lv_if_lt (tgt := 27) hx hb dX6_isAfloat_1 (by decide) (fun c_1 => ?_) (fun c_1 => ?_)
  · rw [if_pos c_1] at h
    refine lv_iconst (v := 0) hx hb dX6_isAfloat_27 (by decide) ?_
    exact b_X6_isAfloat_28 l S hr hlk hK N c tc σ τ x1 0 h hw (lv_sub hl [0, 1] rfl)
  · rw [if_neg c_1] at h
    refine lv_iload_n hx hb dX6_isAfloat_4 rfl (lv_at hl 1 rfl) ?_
    refine lv_bipush (v := 6) hx hb dX6_isAfloat_5 (by decide) ?_
    refine lv_icmp_ge (tgt := 27) hx hb dX6_isAfloat_7 (by decide) (fun c_2 => ?_) (fun c_2 => ?_)
    · rw [if_pos c_2] at h
      refine lv_iconst (v := 0) hx hb dX6_isAfloat_27 (by decide) ?_
      exact b_X6_isAfloat_28 l S hr hlk hK N c tc σ τ x1 0 h hw (lv_sub hl [0, 1] rfl)
    · rw [if_neg c_2] at h
      refine lv_aload_n hx hb dX6_isAfloat_10 rfl (lv_at hl 0 rfl) ?_
      refine gx_getr (j := c + 5) S hK hw tc.1 cl_7 4 (by decide) rfl mw_268 rfl dX6_isAfloat_11 ?_
      refine lv_iload_n hx hb dX6_isAfloat_14 rfl (lv_at hl 1 rfl) ?_
      obtain ⟨j_3, hj_3, hi_3, h⟩ := ck_some h
      refine gx_iald S hK hw (iS_5 tc) j_3 hj_3 hi_3 dX6_isAfloat_15 ?_
      refine lv_aload_n hx hb dX6_isAfloat_16 rfl (lv_at hl 0 rfl) ?_
      refine gx_get S hK hw tc.1 cl_7 8 (by decide) rfl mw_277 rfl dX6_isAfloat_17 ?_
      refine lv_icmp_gt (tgt := 27) hx hb dX6_isAfloat_20 (by decide) (fun c_4 => ?_) (fun c_4 => ?_)
      · rw [if_pos c_4] at h
        refine lv_iconst (v := 0) hx hb dX6_isAfloat_27 (by decide) ?_
        exact b_X6_isAfloat_28 l S hr hlk hK N c tc σ τ x1 0 h hw (lv_sub hl [0, 1] rfl)
      · rw [if_neg c_4] at h
        refine lv_iconst (v := 1) hx hb dX6_isAfloat_23 (by decide) ?_
        refine lv_goto (tgt := 28) hx hb dX6_isAfloat_24 (by decide) ?_
        exact b_X6_isAfloat_28 l S hr hlk hK N c tc σ τ x1 1 h hw (lv_sub hl [0, 1] rfl)
set_option maxHeartbeats 4000000 in
set_option maxRecDepth 100000 in
theorem c_X6_isAfloat (l : Launch) {E : gE} (N : Nat) (c : Nat) (tc : gx_isS c) (σ : gI) (τ : gJ) (x1 : Int32) {r : Int32} {σ1 : gI} {τ1 : gJ} (h : B_X6_isAfloat_0 N c σ τ x1 = some (r, σ1, τ1)) : gx_Mi l yX6_isAfloat cX6_isAfloat 3 (some .boolean) 0 gx_tb E σ τ [.ref (E.2.2 + c), .int x1] (gq_p r σ1 τ1) := by
  refine gx_bi (by decide +kernel) (Nat.le_of_ble_eq_true rfl) ?_
  intro P9 e9 s m9 below meth C9 S hr hlk hK hw ls hl
  have hl : lv_has ls 3 [(0, .ref (E.2.2 + c)), (1, .int x1)] := hl
  exact b_X6_isAfloat_0 l S hr hlk hK N c tc σ τ x1 h hw hl
/-! X8_figureOf -/
def B_X8_figureOf_0 (N : Nat) (σ : gI) (τ : gJ) (x1 : Int32) : Option (Int32 × gI × gJ) := if x1 < 0 then (some (0, σ, τ)) else (if 12 ≤ x1 then (some (0, σ, τ)) else (ck x1 12 fun j_3 => some (σ 7 j_3, σ, τ)))
set_option maxHeartbeats 4000000 in
set_option maxRecDepth 100000 in
theorem b_X8_figureOf_0 (l : Launch) (S : CallFix P9 m9 C9 cX8_figureOf 2 s av.toArray gx_G RX8) (hr : meth.sig.returnType = (some .int)) (hlk : meth.locks = false) (hK : gx_K E s) (N : Nat) (σ : gI) (τ : gJ) (x1 : Int32) {r : Int32} {σ1 : gI} {τ1 : gJ} (h : B_X8_figureOf_0 N σ τ x1 = some (r, σ1, τ1)) {H : Heap} {locs : List Loc} {ls : Array Slot} (hw : gx_W gx_tb gx_tb.length E s σ τ H locs) (hl : lv_has ls 2 [(0, .ref (E.2.2 + 3)), (1, .int x1)]) : W P9 l e9 (gx_rm 0) s m9 av.toArray below meth C9 H locs 0 0 (gq_Qi below av s E r σ1 τ1) (F0 m9 0 ls []) := by
  have hx := S.1
  have hb := S.2.1
  unfold B_X8_figureOf_0 at h
  refine lv_iload_n hx hb dX8_figureOf_0 rfl (lv_at hl 1 rfl) ?_
  refine lv_if_lt (tgt := 19) hx hb dX8_figureOf_1 (by decide) (fun c_1 => ?_) (fun c_1 => ?_)
  · rw [if_pos c_1] at h
    refine lv_iconst (v := 0) hx hb dX8_figureOf_19 (by decide) ?_
    obtain ⟨rfl, rfl, rfl⟩ := sm_inj h
    exact gx_ri (post := gq_p 0 σ τ) (v := 0) S hr hlk hw rfl dX8_figureOf_20 ⟨rfl, rfl, rfl⟩
  · rw [if_neg c_1] at h
    refine lv_iload_n hx hb dX8_figureOf_4 rfl (lv_at hl 1 rfl) ?_
    refine lv_bipush (v := 12) hx hb dX8_figureOf_5 (by decide) ?_
    refine lv_icmp_ge (tgt := 19) hx hb dX8_figureOf_7 (by decide) (fun c_2 => ?_) (fun c_2 => ?_)
    · rw [if_pos c_2] at h
      refine lv_iconst (v := 0) hx hb dX8_figureOf_19 (by decide) ?_
      obtain ⟨rfl, rfl, rfl⟩ := sm_inj h
      exact gx_ri (post := gq_p 0 σ τ) (v := 0) S hr hlk hw rfl dX8_figureOf_20 ⟨rfl, rfl, rfl⟩
    · rw [if_neg c_2] at h
      refine lv_aload_n hx hb dX8_figureOf_10 rfl (lv_at hl 0 rfl) ?_
      refine gx_getr (j := 7) S hK hw t_3 cl_9 3 (by decide) rfl mw_151 rfl dX8_figureOf_11 ?_
      refine lv_iload_n hx hb dX8_figureOf_14 rfl (lv_at hl 1 rfl) ?_
      obtain ⟨j_3, hj_3, hi_3, h⟩ := ck_some h
      refine gx_iald S hK hw t_7 j_3 hj_3 hi_3 dX8_figureOf_15 ?_
      refine lv_goto (tgt := 20) hx hb dX8_figureOf_16 (by decide) ?_
      obtain ⟨rfl, rfl, rfl⟩ := sm_inj h
      exact gx_ri (post := gq_p (σ 7 j_3) σ τ) (v := σ 7 j_3) S hr hlk hw rfl dX8_figureOf_20 ⟨rfl, rfl, rfl⟩
set_option maxHeartbeats 4000000 in
set_option maxRecDepth 100000 in
theorem c_X8_figureOf (l : Launch) {E : gE} (N : Nat) (σ : gI) (τ : gJ) (x1 : Int32) {r : Int32} {σ1 : gI} {τ1 : gJ} (h : B_X8_figureOf_0 N σ τ x1 = some (r, σ1, τ1)) : gx_Mi l yX8_figureOf cX8_figureOf 2 (some .int) 0 gx_tb E σ τ [.ref (E.2.2 + 3), .int x1] (gq_p r σ1 τ1) := by
  refine gx_bi (by decide +kernel) (Nat.le_of_ble_eq_true rfl) ?_
  intro P9 e9 s m9 below meth C9 S hr hlk hK hw ls hl
  have hl : lv_has ls 2 [(0, .ref (E.2.2 + 3)), (1, .int x1)] := hl
  exact b_X8_figureOf_0 l S hr hlk hK N σ τ x1 h hw hl
/-! X8_nextOf -/
def B_X8_nextOf_0 (N : Nat) (σ : gI) (τ : gJ) (x1 : Int32) : Option (Int32 × gI × gJ) := if x1 < 0 then (some ((-1), σ, τ)) else (if 12 ≤ x1 then (some ((-1), σ, τ)) else (ck x1 12 fun j_3 => some (σ 5 j_3, σ, τ)))
set_option maxHeartbeats 4000000 in
set_option maxRecDepth 100000 in
theorem b_X8_nextOf_0 (l : Launch) (S : CallFix P9 m9 C9 cX8_nextOf 2 s av.toArray gx_G RX8) (hr : meth.sig.returnType = (some .int)) (hlk : meth.locks = false) (hK : gx_K E s) (N : Nat) (σ : gI) (τ : gJ) (x1 : Int32) {r : Int32} {σ1 : gI} {τ1 : gJ} (h : B_X8_nextOf_0 N σ τ x1 = some (r, σ1, τ1)) {H : Heap} {locs : List Loc} {ls : Array Slot} (hw : gx_W gx_tb gx_tb.length E s σ τ H locs) (hl : lv_has ls 2 [(0, .ref (E.2.2 + 3)), (1, .int x1)]) : W P9 l e9 (gx_rm 0) s m9 av.toArray below meth C9 H locs 0 0 (gq_Qi below av s E r σ1 τ1) (F0 m9 0 ls []) := by
  have hx := S.1
  have hb := S.2.1
  unfold B_X8_nextOf_0 at h
  refine lv_iload_n hx hb dX8_nextOf_0 rfl (lv_at hl 1 rfl) ?_
  refine lv_if_lt (tgt := 19) hx hb dX8_nextOf_1 (by decide) (fun c_1 => ?_) (fun c_1 => ?_)
  · rw [if_pos c_1] at h
    refine lv_iconst (v := (-1)) hx hb dX8_nextOf_19 (by decide) ?_
    obtain ⟨rfl, rfl, rfl⟩ := sm_inj h
    exact gx_ri (post := gq_p (-1) σ τ) (v := (-1)) S hr hlk hw rfl dX8_nextOf_20 ⟨rfl, rfl, rfl⟩
  · rw [if_neg c_1] at h
    refine lv_iload_n hx hb dX8_nextOf_4 rfl (lv_at hl 1 rfl) ?_
    refine lv_bipush (v := 12) hx hb dX8_nextOf_5 (by decide) ?_
    refine lv_icmp_ge (tgt := 19) hx hb dX8_nextOf_7 (by decide) (fun c_2 => ?_) (fun c_2 => ?_)
    · rw [if_pos c_2] at h
      refine lv_iconst (v := (-1)) hx hb dX8_nextOf_19 (by decide) ?_
      obtain ⟨rfl, rfl, rfl⟩ := sm_inj h
      exact gx_ri (post := gq_p (-1) σ τ) (v := (-1)) S hr hlk hw rfl dX8_nextOf_20 ⟨rfl, rfl, rfl⟩
    · rw [if_neg c_2] at h
      refine lv_aload_n hx hb dX8_nextOf_10 rfl (lv_at hl 0 rfl) ?_
      refine gx_getr (j := 5) S hK hw t_3 cl_9 1 (by decide) rfl mw_149 rfl dX8_nextOf_11 ?_
      refine lv_iload_n hx hb dX8_nextOf_14 rfl (lv_at hl 1 rfl) ?_
      obtain ⟨j_3, hj_3, hi_3, h⟩ := ck_some h
      refine gx_iald S hK hw t_5 j_3 hj_3 hi_3 dX8_nextOf_15 ?_
      refine lv_goto (tgt := 20) hx hb dX8_nextOf_16 (by decide) ?_
      obtain ⟨rfl, rfl, rfl⟩ := sm_inj h
      exact gx_ri (post := gq_p (σ 5 j_3) σ τ) (v := σ 5 j_3) S hr hlk hw rfl dX8_nextOf_20 ⟨rfl, rfl, rfl⟩
set_option maxHeartbeats 4000000 in
set_option maxRecDepth 100000 in
theorem c_X8_nextOf (l : Launch) {E : gE} (N : Nat) (σ : gI) (τ : gJ) (x1 : Int32) {r : Int32} {σ1 : gI} {τ1 : gJ} (h : B_X8_nextOf_0 N σ τ x1 = some (r, σ1, τ1)) : gx_Mi l yX8_nextOf cX8_nextOf 2 (some .int) 0 gx_tb E σ τ [.ref (E.2.2 + 3), .int x1] (gq_p r σ1 τ1) := by
  refine gx_bi (by decide +kernel) (Nat.le_of_ble_eq_true rfl) ?_
  intro P9 e9 s m9 below meth C9 S hr hlk hK hw ls hl
  have hl : lv_has ls 2 [(0, .ref (E.2.2 + 3)), (1, .int x1)] := hl
  exact b_X8_nextOf_0 l S hr hlk hK N σ τ x1 h hw hl
/-! X8_kindOf -/
def B_X8_kindOf_0 (N : Nat) (σ : gI) (τ : gJ) (x1 : Int32) : Option (Int32 × gI × gJ) := if x1 < 0 then (some (6, σ, τ)) else (if 12 ≤ x1 then (some (6, σ, τ)) else (ck x1 12 fun j_3 => some (σ 4 j_3, σ, τ)))
set_option maxHeartbeats 4000000 in
set_option maxRecDepth 100000 in
theorem b_X8_kindOf_0 (l : Launch) (S : CallFix P9 m9 C9 cX8_kindOf 2 s av.toArray gx_G RX8) (hr : meth.sig.returnType = (some .int)) (hlk : meth.locks = false) (hK : gx_K E s) (N : Nat) (σ : gI) (τ : gJ) (x1 : Int32) {r : Int32} {σ1 : gI} {τ1 : gJ} (h : B_X8_kindOf_0 N σ τ x1 = some (r, σ1, τ1)) {H : Heap} {locs : List Loc} {ls : Array Slot} (hw : gx_W gx_tb gx_tb.length E s σ τ H locs) (hl : lv_has ls 2 [(0, .ref (E.2.2 + 3)), (1, .int x1)]) : W P9 l e9 (gx_rm 0) s m9 av.toArray below meth C9 H locs 0 0 (gq_Qi below av s E r σ1 τ1) (F0 m9 0 ls []) := by
  have hx := S.1
  have hb := S.2.1
  unfold B_X8_kindOf_0 at h
  refine lv_iload_n hx hb dX8_kindOf_0 rfl (lv_at hl 1 rfl) ?_
  refine lv_if_lt (tgt := 19) hx hb dX8_kindOf_1 (by decide) (fun c_1 => ?_) (fun c_1 => ?_)
  · rw [if_pos c_1] at h
    refine lv_bipush (v := 6) hx hb dX8_kindOf_19 (by decide) ?_
    obtain ⟨rfl, rfl, rfl⟩ := sm_inj h
    exact gx_ri (post := gq_p 6 σ τ) (v := 6) S hr hlk hw rfl dX8_kindOf_21 ⟨rfl, rfl, rfl⟩
  · rw [if_neg c_1] at h
    refine lv_iload_n hx hb dX8_kindOf_4 rfl (lv_at hl 1 rfl) ?_
    refine lv_bipush (v := 12) hx hb dX8_kindOf_5 (by decide) ?_
    refine lv_icmp_ge (tgt := 19) hx hb dX8_kindOf_7 (by decide) (fun c_2 => ?_) (fun c_2 => ?_)
    · rw [if_pos c_2] at h
      refine lv_bipush (v := 6) hx hb dX8_kindOf_19 (by decide) ?_
      obtain ⟨rfl, rfl, rfl⟩ := sm_inj h
      exact gx_ri (post := gq_p 6 σ τ) (v := 6) S hr hlk hw rfl dX8_kindOf_21 ⟨rfl, rfl, rfl⟩
    · rw [if_neg c_2] at h
      refine lv_aload_n hx hb dX8_kindOf_10 rfl (lv_at hl 0 rfl) ?_
      refine gx_getr (j := 4) S hK hw t_3 cl_9 0 (by decide) rfl mw_148 rfl dX8_kindOf_11 ?_
      refine lv_iload_n hx hb dX8_kindOf_14 rfl (lv_at hl 1 rfl) ?_
      obtain ⟨j_3, hj_3, hi_3, h⟩ := ck_some h
      refine gx_iald S hK hw t_4 j_3 hj_3 hi_3 dX8_kindOf_15 ?_
      refine lv_goto (tgt := 21) hx hb dX8_kindOf_16 (by decide) ?_
      obtain ⟨rfl, rfl, rfl⟩ := sm_inj h
      exact gx_ri (post := gq_p (σ 4 j_3) σ τ) (v := σ 4 j_3) S hr hlk hw rfl dX8_kindOf_21 ⟨rfl, rfl, rfl⟩
set_option maxHeartbeats 4000000 in
set_option maxRecDepth 100000 in
theorem c_X8_kindOf (l : Launch) {E : gE} (N : Nat) (σ : gI) (τ : gJ) (x1 : Int32) {r : Int32} {σ1 : gI} {τ1 : gJ} (h : B_X8_kindOf_0 N σ τ x1 = some (r, σ1, τ1)) : gx_Mi l yX8_kindOf cX8_kindOf 2 (some .int) 0 gx_tb E σ τ [.ref (E.2.2 + 3), .int x1] (gq_p r σ1 τ1) := by
  refine gx_bi (by decide +kernel) (Nat.le_of_ble_eq_true rfl) ?_
  intro P9 e9 s m9 below meth C9 S hr hlk hK hw ls hl
  have hl : lv_has ls 2 [(0, .ref (E.2.2 + 3)), (1, .int x1)] := hl
  exact b_X8_kindOf_0 l S hr hlk hK N σ τ x1 h hw hl
/-! X8_secondOf -/
def B_X8_secondOf_0 (N : Nat) (σ : gI) (τ : gJ) (x1 : Int32) : Option (Int32 × gI × gJ) := if x1 < 0 then (some ((-1), σ, τ)) else (if 12 ≤ x1 then (some ((-1), σ, τ)) else (ck x1 12 fun j_3 => some (σ 6 j_3, σ, τ)))
set_option maxHeartbeats 4000000 in
set_option maxRecDepth 100000 in
theorem b_X8_secondOf_0 (l : Launch) (S : CallFix P9 m9 C9 cX8_secondOf 2 s av.toArray gx_G RX8) (hr : meth.sig.returnType = (some .int)) (hlk : meth.locks = false) (hK : gx_K E s) (N : Nat) (σ : gI) (τ : gJ) (x1 : Int32) {r : Int32} {σ1 : gI} {τ1 : gJ} (h : B_X8_secondOf_0 N σ τ x1 = some (r, σ1, τ1)) {H : Heap} {locs : List Loc} {ls : Array Slot} (hw : gx_W gx_tb gx_tb.length E s σ τ H locs) (hl : lv_has ls 2 [(0, .ref (E.2.2 + 3)), (1, .int x1)]) : W P9 l e9 (gx_rm 0) s m9 av.toArray below meth C9 H locs 0 0 (gq_Qi below av s E r σ1 τ1) (F0 m9 0 ls []) := by
  have hx := S.1
  have hb := S.2.1
  unfold B_X8_secondOf_0 at h
  refine lv_iload_n hx hb dX8_secondOf_0 rfl (lv_at hl 1 rfl) ?_
  refine lv_if_lt (tgt := 19) hx hb dX8_secondOf_1 (by decide) (fun c_1 => ?_) (fun c_1 => ?_)
  · rw [if_pos c_1] at h
    refine lv_iconst (v := (-1)) hx hb dX8_secondOf_19 (by decide) ?_
    obtain ⟨rfl, rfl, rfl⟩ := sm_inj h
    exact gx_ri (post := gq_p (-1) σ τ) (v := (-1)) S hr hlk hw rfl dX8_secondOf_20 ⟨rfl, rfl, rfl⟩
  · rw [if_neg c_1] at h
    refine lv_iload_n hx hb dX8_secondOf_4 rfl (lv_at hl 1 rfl) ?_
    refine lv_bipush (v := 12) hx hb dX8_secondOf_5 (by decide) ?_
    refine lv_icmp_ge (tgt := 19) hx hb dX8_secondOf_7 (by decide) (fun c_2 => ?_) (fun c_2 => ?_)
    · rw [if_pos c_2] at h
      refine lv_iconst (v := (-1)) hx hb dX8_secondOf_19 (by decide) ?_
      obtain ⟨rfl, rfl, rfl⟩ := sm_inj h
      exact gx_ri (post := gq_p (-1) σ τ) (v := (-1)) S hr hlk hw rfl dX8_secondOf_20 ⟨rfl, rfl, rfl⟩
    · rw [if_neg c_2] at h
      refine lv_aload_n hx hb dX8_secondOf_10 rfl (lv_at hl 0 rfl) ?_
      refine gx_getr (j := 6) S hK hw t_3 cl_9 2 (by decide) rfl mw_150 rfl dX8_secondOf_11 ?_
      refine lv_iload_n hx hb dX8_secondOf_14 rfl (lv_at hl 1 rfl) ?_
      obtain ⟨j_3, hj_3, hi_3, h⟩ := ck_some h
      refine gx_iald S hK hw t_6 j_3 hj_3 hi_3 dX8_secondOf_15 ?_
      refine lv_goto (tgt := 20) hx hb dX8_secondOf_16 (by decide) ?_
      obtain ⟨rfl, rfl, rfl⟩ := sm_inj h
      exact gx_ri (post := gq_p (σ 6 j_3) σ τ) (v := σ 6 j_3) S hr hlk hw rfl dX8_secondOf_20 ⟨rfl, rfl, rfl⟩
set_option maxHeartbeats 4000000 in
set_option maxRecDepth 100000 in
theorem c_X8_secondOf (l : Launch) {E : gE} (N : Nat) (σ : gI) (τ : gJ) (x1 : Int32) {r : Int32} {σ1 : gI} {τ1 : gJ} (h : B_X8_secondOf_0 N σ τ x1 = some (r, σ1, τ1)) : gx_Mi l yX8_secondOf cX8_secondOf 2 (some .int) 0 gx_tb E σ τ [.ref (E.2.2 + 3), .int x1] (gq_p r σ1 τ1) := by
  refine gx_bi (by decide +kernel) (Nat.le_of_ble_eq_true rfl) ?_
  intro P9 e9 s m9 below meth C9 S hr hlk hK hw ls hl
  have hl : lv_has ls 2 [(0, .ref (E.2.2 + 3)), (1, .int x1)] := hl
  exact b_X8_secondOf_0 l S hr hlk hK N σ τ x1 h hw hl
/-! X6_paperOf -/
def B_X6_paperOf_0 (N : Nat) (c : Nat) (σ : gI) (τ : gJ) (x1 : Int32) : Option (Int32 × gI × gJ) := if x1 < 0 then (some (0, σ, τ)) else (if 6 ≤ x1 then (some (0, σ, τ)) else (ck x1 6 fun j_3 => some (σ (c + 2) j_3, σ, τ)))
set_option maxHeartbeats 4000000 in
set_option maxRecDepth 100000 in
theorem b_X6_paperOf_0 (l : Launch) (S : CallFix P9 m9 C9 cX6_paperOf 2 s av.toArray gx_G RX6) (hr : meth.sig.returnType = (some .int)) (hlk : meth.locks = false) (hK : gx_K E s) (N : Nat) (c : Nat) (tc : gx_isS c) (σ : gI) (τ : gJ) (x1 : Int32) {r : Int32} {σ1 : gI} {τ1 : gJ} (h : B_X6_paperOf_0 N c σ τ x1 = some (r, σ1, τ1)) {H : Heap} {locs : List Loc} {ls : Array Slot} (hw : gx_W gx_tb gx_tb.length E s σ τ H locs) (hl : lv_has ls 2 [(0, .ref (E.2.2 + c)), (1, .int x1)]) : W P9 l e9 (gx_rm 0) s m9 av.toArray below meth C9 H locs 0 0 (gq_Qi below av s E r σ1 τ1) (F0 m9 0 ls []) := by
  have hx := S.1
  have hb := S.2.1
  unfold B_X6_paperOf_0 at h
  refine lv_iload_n hx hb dX6_paperOf_0 rfl (lv_at hl 1 rfl) ?_
  refine lv_if_lt (tgt := 19) hx hb dX6_paperOf_1 (by decide) (fun c_1 => ?_) (fun c_1 => ?_)
  · rw [if_pos c_1] at h
    refine lv_iconst (v := 0) hx hb dX6_paperOf_19 (by decide) ?_
    obtain ⟨rfl, rfl, rfl⟩ := sm_inj h
    exact gx_ri (post := gq_p 0 σ τ) (v := 0) S hr hlk hw rfl dX6_paperOf_20 ⟨rfl, rfl, rfl⟩
  · rw [if_neg c_1] at h
    refine lv_iload_n hx hb dX6_paperOf_4 rfl (lv_at hl 1 rfl) ?_
    refine lv_bipush (v := 6) hx hb dX6_paperOf_5 (by decide) ?_
    refine lv_icmp_ge (tgt := 19) hx hb dX6_paperOf_7 (by decide) (fun c_2 => ?_) (fun c_2 => ?_)
    · rw [if_pos c_2] at h
      refine lv_iconst (v := 0) hx hb dX6_paperOf_19 (by decide) ?_
      obtain ⟨rfl, rfl, rfl⟩ := sm_inj h
      exact gx_ri (post := gq_p 0 σ τ) (v := 0) S hr hlk hw rfl dX6_paperOf_20 ⟨rfl, rfl, rfl⟩
    · rw [if_neg c_2] at h
      refine lv_aload_n hx hb dX6_paperOf_10 rfl (lv_at hl 0 rfl) ?_
      refine gx_getr (j := c + 2) S hK hw tc.1 cl_7 1 (by decide) rfl mw_265 rfl dX6_paperOf_11 ?_
      refine lv_iload_n hx hb dX6_paperOf_14 rfl (lv_at hl 1 rfl) ?_
      obtain ⟨j_3, hj_3, hi_3, h⟩ := ck_some h
      refine gx_iald S hK hw (iS_2 tc) j_3 hj_3 hi_3 dX6_paperOf_15 ?_
      refine lv_goto (tgt := 20) hx hb dX6_paperOf_16 (by decide) ?_
      obtain ⟨rfl, rfl, rfl⟩ := sm_inj h
      exact gx_ri (post := gq_p (σ (c + 2) j_3) σ τ) (v := σ (c + 2) j_3) S hr hlk hw rfl dX6_paperOf_20 ⟨rfl, rfl, rfl⟩
set_option maxHeartbeats 4000000 in
set_option maxRecDepth 100000 in
theorem c_X6_paperOf (l : Launch) {E : gE} (N : Nat) (c : Nat) (tc : gx_isS c) (σ : gI) (τ : gJ) (x1 : Int32) {r : Int32} {σ1 : gI} {τ1 : gJ} (h : B_X6_paperOf_0 N c σ τ x1 = some (r, σ1, τ1)) : gx_Mi l yX6_paperOf cX6_paperOf 2 (some .int) 0 gx_tb E σ τ [.ref (E.2.2 + c), .int x1] (gq_p r σ1 τ1) := by
  refine gx_bi (by decide +kernel) (Nat.le_of_ble_eq_true rfl) ?_
  intro P9 e9 s m9 below meth C9 S hr hlk hK hw ls hl
  have hl : lv_has ls 2 [(0, .ref (E.2.2 + c)), (1, .int x1)] := hl
  exact b_X6_paperOf_0 l S hr hlk hK N c tc σ τ x1 h hw hl
/-! X6_purseOf -/
def B_X6_purseOf_0 (N : Nat) (c : Nat) (σ : gI) (τ : gJ) (x1 : Int32) : Option (Int32 × gI × gJ) := if x1 < 0 then (some (0, σ, τ)) else (if 6 ≤ x1 then (some (0, σ, τ)) else (ck x1 6 fun j_3 => some (σ (c + 3) j_3, σ, τ)))
set_option maxHeartbeats 4000000 in
set_option maxRecDepth 100000 in
theorem b_X6_purseOf_0 (l : Launch) (S : CallFix P9 m9 C9 cX6_purseOf 2 s av.toArray gx_G RX6) (hr : meth.sig.returnType = (some .int)) (hlk : meth.locks = false) (hK : gx_K E s) (N : Nat) (c : Nat) (tc : gx_isS c) (σ : gI) (τ : gJ) (x1 : Int32) {r : Int32} {σ1 : gI} {τ1 : gJ} (h : B_X6_purseOf_0 N c σ τ x1 = some (r, σ1, τ1)) {H : Heap} {locs : List Loc} {ls : Array Slot} (hw : gx_W gx_tb gx_tb.length E s σ τ H locs) (hl : lv_has ls 2 [(0, .ref (E.2.2 + c)), (1, .int x1)]) : W P9 l e9 (gx_rm 0) s m9 av.toArray below meth C9 H locs 0 0 (gq_Qi below av s E r σ1 τ1) (F0 m9 0 ls []) := by
  have hx := S.1
  have hb := S.2.1
  unfold B_X6_purseOf_0 at h
  refine lv_iload_n hx hb dX6_purseOf_0 rfl (lv_at hl 1 rfl) ?_
  refine lv_if_lt (tgt := 19) hx hb dX6_purseOf_1 (by decide) (fun c_1 => ?_) (fun c_1 => ?_)
  · rw [if_pos c_1] at h
    refine lv_iconst (v := 0) hx hb dX6_purseOf_19 (by decide) ?_
    obtain ⟨rfl, rfl, rfl⟩ := sm_inj h
    exact gx_ri (post := gq_p 0 σ τ) (v := 0) S hr hlk hw rfl dX6_purseOf_20 ⟨rfl, rfl, rfl⟩
  · rw [if_neg c_1] at h
    refine lv_iload_n hx hb dX6_purseOf_4 rfl (lv_at hl 1 rfl) ?_
    refine lv_bipush (v := 6) hx hb dX6_purseOf_5 (by decide) ?_
    refine lv_icmp_ge (tgt := 19) hx hb dX6_purseOf_7 (by decide) (fun c_2 => ?_) (fun c_2 => ?_)
    · rw [if_pos c_2] at h
      refine lv_iconst (v := 0) hx hb dX6_purseOf_19 (by decide) ?_
      obtain ⟨rfl, rfl, rfl⟩ := sm_inj h
      exact gx_ri (post := gq_p 0 σ τ) (v := 0) S hr hlk hw rfl dX6_purseOf_20 ⟨rfl, rfl, rfl⟩
    · rw [if_neg c_2] at h
      refine lv_aload_n hx hb dX6_purseOf_10 rfl (lv_at hl 0 rfl) ?_
      refine gx_getr (j := c + 3) S hK hw tc.1 cl_7 2 (by decide) rfl mw_266 rfl dX6_purseOf_11 ?_
      refine lv_iload_n hx hb dX6_purseOf_14 rfl (lv_at hl 1 rfl) ?_
      obtain ⟨j_3, hj_3, hi_3, h⟩ := ck_some h
      refine gx_iald S hK hw (iS_3 tc) j_3 hj_3 hi_3 dX6_purseOf_15 ?_
      refine lv_goto (tgt := 20) hx hb dX6_purseOf_16 (by decide) ?_
      obtain ⟨rfl, rfl, rfl⟩ := sm_inj h
      exact gx_ri (post := gq_p (σ (c + 3) j_3) σ τ) (v := σ (c + 3) j_3) S hr hlk hw rfl dX6_purseOf_20 ⟨rfl, rfl, rfl⟩
set_option maxHeartbeats 4000000 in
set_option maxRecDepth 100000 in
theorem c_X6_purseOf (l : Launch) {E : gE} (N : Nat) (c : Nat) (tc : gx_isS c) (σ : gI) (τ : gJ) (x1 : Int32) {r : Int32} {σ1 : gI} {τ1 : gJ} (h : B_X6_purseOf_0 N c σ τ x1 = some (r, σ1, τ1)) : gx_Mi l yX6_purseOf cX6_purseOf 2 (some .int) 0 gx_tb E σ τ [.ref (E.2.2 + c), .int x1] (gq_p r σ1 τ1) := by
  refine gx_bi (by decide +kernel) (Nat.le_of_ble_eq_true rfl) ?_
  intro P9 e9 s m9 below meth C9 S hr hlk hK hw ls hl
  have hl : lv_has ls 2 [(0, .ref (E.2.2 + c)), (1, .int x1)] := hl
  exact b_X6_purseOf_0 l S hr hlk hK N c tc σ τ x1 h hw hl
/-! X6_at -/
def C_X6_at_4 (N : Nat) (c : Nat) (rec_4 : gI → gJ → Int32 → Int32 → Int32 → Option (Int32 × gI × gJ)) (σ : gI) (τ : gJ) (x1 : Int32) (x2 : Int32) (x3 : Int32) : Option (Int32 × gI × gJ) := if σ c 6 ≤ x3 then (some (x2, σ, τ)) else (if 6 ≤ x3 then (some (x2, σ, τ)) else (ck x3 6 fun j_3 => if σ (c + 1) j_3 = x1 then (nm (x2 ||| (1 <<< (x3 &&& 31))) fun v_7 => nm (x3 + 1) fun v_8 => rec_4 σ τ x1 v_7 v_8) else (nm (x2 ||| 0) fun v_5 => nm (x3 + 1) fun v_6 => rec_4 σ τ x1 v_5 v_6)))
def H_X6_at_4 (N : Nat) (c : Nat) : Nat → gI → gJ → Int32 → Int32 → Int32 → Option (Int32 × gI × gJ) := itn (fun rec_4 => C_X6_at_4 N c rec_4) (fun _ _ _ _ _ => none)
def B_X6_at_0 (N : Nat) (c : Nat) (σ : gI) (τ : gJ) (x1 : Int32) : Option (Int32 × gI × gJ) := H_X6_at_4 N c N σ τ x1 0 0
set_option maxHeartbeats 4000000 in
set_option maxRecDepth 100000 in
theorem k_X6_at_4 (l : Launch) (S : CallFix P9 m9 C9 cX6_at 4 s av.toArray gx_G RX6) (hr : meth.sig.returnType = (some .int)) (hlk : meth.locks = false) (hK : gx_K E s) (N : Nat) (c : Nat) (tc : gx_isS c) (rec_4 : gI → gJ → Int32 → Int32 → Int32 → Option (Int32 × gI × gJ)) (hrec_4 : ∀ (σ : gI) (τ : gJ) (x1 : Int32) (x2 : Int32) (x3 : Int32) (r : Int32) (σ1 : gI) (τ1 : gJ) (H : Heap) (locs : List Loc) (ls : Array Slot), rec_4 σ τ x1 x2 x3 = some (r, σ1, τ1) → gx_W gx_tb gx_tb.length E s σ τ H locs → lv_has ls 4 [(0, .ref (E.2.2 + c)), (1, .int x1), (2, .int x2), (3, .int x3)] → W P9 l e9 (gx_rm 0) s m9 av.toArray below meth C9 H locs 0 0 (gq_Qi below av s E r σ1 τ1) (F0 m9 4 ls [])) (σ : gI) (τ : gJ) (x1 : Int32) (x2 : Int32) (x3 : Int32) {r : Int32} {σ1 : gI} {τ1 : gJ} (h : C_X6_at_4 N c rec_4 σ τ x1 x2 x3 = some (r, σ1, τ1)) {H : Heap} {locs : List Loc} {ls : Array Slot} (hw : gx_W gx_tb gx_tb.length E s σ τ H locs) (hl : lv_has ls 4 [(0, .ref (E.2.2 + c)), (1, .int x1), (2, .int x2), (3, .int x3)]) : W P9 l e9 (gx_rm 0) s m9 av.toArray below meth C9 H locs 0 0 (gq_Qi below av s E r σ1 τ1) (F0 m9 4 ls []) := by
  have hx := S.1
  have hb := S.2.1
  unfold C_X6_at_4 at h
  refine lv_iload_n hx hb dX6_at_4 rfl (lv_at hl 3 rfl) ?_
  refine lv_aload_n hx hb dX6_at_5 rfl (lv_at hl 0 rfl) ?_
  refine gx_get S hK hw tc.1 cl_7 6 (by decide) rfl mw_270 rfl dX6_at_6 ?_
  refine lv_icmp_ge (tgt := 44) hx hb dX6_at_9 (by decide) (fun c_1 => ?_) (fun c_1 => ?_)
  · rw [if_pos c_1] at h
    refine lv_iload_n hx hb dX6_at_44 rfl (lv_at hl 2 rfl) ?_
    obtain ⟨rfl, rfl, rfl⟩ := sm_inj h
    exact gx_ri (post := gq_p x2 σ τ) (v := x2) S hr hlk hw rfl dX6_at_45 ⟨rfl, rfl, rfl⟩
  · rw [if_neg c_1] at h
    refine lv_iload_n hx hb dX6_at_12 rfl (lv_at hl 3 rfl) ?_
    refine lv_bipush (v := 6) hx hb dX6_at_13 (by decide) ?_
    refine lv_icmp_ge (tgt := 44) hx hb dX6_at_15 (by decide) (fun c_2 => ?_) (fun c_2 => ?_)
    · rw [if_pos c_2] at h
      refine lv_iload_n hx hb dX6_at_44 rfl (lv_at hl 2 rfl) ?_
      obtain ⟨rfl, rfl, rfl⟩ := sm_inj h
      exact gx_ri (post := gq_p x2 σ τ) (v := x2) S hr hlk hw rfl dX6_at_45 ⟨rfl, rfl, rfl⟩
    · rw [if_neg c_2] at h
      refine lv_iload_n hx hb dX6_at_18 rfl (lv_at hl 2 rfl) ?_
      refine lv_aload_n hx hb dX6_at_19 rfl (lv_at hl 0 rfl) ?_
      refine gx_getr (j := c + 1) S hK hw tc.1 cl_7 0 (by decide) rfl mw_264 rfl dX6_at_20 ?_
      refine lv_iload_n hx hb dX6_at_23 rfl (lv_at hl 3 rfl) ?_
      obtain ⟨j_3, hj_3, hi_3, h⟩ := ck_some h
      refine gx_iald S hK hw (iS_1 tc) j_3 hj_3 hi_3 dX6_at_24 ?_
      refine lv_iload_n hx hb dX6_at_25 rfl (lv_at hl 1 rfl) ?_
      refine lv_icmp_ne (tgt := 35) hx hb dX6_at_26 (by decide) (fun c_4 => ?_) (fun c_4 => ?_)
      · rw [if_neg c_4] at h
        refine lv_iconst (v := 0) hx hb dX6_at_35 (by decide) ?_
        refine lv_ior hx hb dX6_at_36 ?_
        refine lv_istore_n (lv' := [(2, .int (x2 ||| 0)), (0, .ref (E.2.2 + c)), (1, .int x1), (3, .int x3)]) hx hb dX6_at_37 rfl hl (by decide) rfl (fun ls hl => ?_)
        obtain ⟨v_5, e_5, h⟩ := nm_some h
        have hl : lv_has ls 4 [(2, .int v_5), (0, .ref (E.2.2 + c)), (1, .int x1), (3, .int x3)] := by rw [e_5]; exact hl
        refine lv_iinc (v := x3 + 1) (lv' := [(3, .int (x3 + 1)), (2, .int v_5), (0, .ref (E.2.2 + c)), (1, .int x1)]) hx hb dX6_at_38 hl (k := 3) rfl rfl (by decide) rfl (fun ls hl => ?_)
        obtain ⟨v_6, e_6, h⟩ := nm_some h
        have hl : lv_has ls 4 [(3, .int v_6), (2, .int v_5), (0, .ref (E.2.2 + c)), (1, .int x1)] := by rw [e_6]; exact hl
        refine lv_goto (tgt := 4) hx hb dX6_at_41 (by decide) ?_
        exact hrec_4 σ τ x1 v_5 v_6 _ _ _ _ _ _ h hw (lv_sub hl [2, 3, 1, 0] rfl)
      · rw [if_pos c_4] at h
        refine lv_iconst (v := 1) hx hb dX6_at_29 (by decide) ?_
        refine lv_iload_n hx hb dX6_at_30 rfl (lv_at hl 3 rfl) ?_
        refine lv_ishl hx hb dX6_at_31 ?_
        refine lv_goto (tgt := 36) hx hb dX6_at_32 (by decide) ?_
        refine lv_ior hx hb dX6_at_36 ?_
        refine lv_istore_n (lv' := [(2, .int (x2 ||| (1 <<< (x3 &&& 31)))), (0, .ref (E.2.2 + c)), (1, .int x1), (3, .int x3)]) hx hb dX6_at_37 rfl hl (by decide) rfl (fun ls hl => ?_)
        obtain ⟨v_7, e_7, h⟩ := nm_some h
        have hl : lv_has ls 4 [(2, .int v_7), (0, .ref (E.2.2 + c)), (1, .int x1), (3, .int x3)] := by rw [e_7]; exact hl
        refine lv_iinc (v := x3 + 1) (lv' := [(3, .int (x3 + 1)), (2, .int v_7), (0, .ref (E.2.2 + c)), (1, .int x1)]) hx hb dX6_at_38 hl (k := 3) rfl rfl (by decide) rfl (fun ls hl => ?_)
        obtain ⟨v_8, e_8, h⟩ := nm_some h
        have hl : lv_has ls 4 [(3, .int v_8), (2, .int v_7), (0, .ref (E.2.2 + c)), (1, .int x1)] := by rw [e_8]; exact hl
        refine lv_goto (tgt := 4) hx hb dX6_at_41 (by decide) ?_
        exact hrec_4 σ τ x1 v_7 v_8 _ _ _ _ _ _ h hw (lv_sub hl [2, 3, 1, 0] rfl)
set_option maxHeartbeats 4000000 in
set_option maxRecDepth 100000 in
theorem h_X6_at_4 (l : Launch) (S : CallFix P9 m9 C9 cX6_at 4 s av.toArray gx_G RX6) (hr : meth.sig.returnType = (some .int)) (hlk : meth.locks = false) (hK : gx_K E s) (N : Nat) (c : Nat) (tc : gx_isS c) : ∀ (n : Nat) (σ : gI) (τ : gJ) (x1 : Int32) (x2 : Int32) (x3 : Int32) (r : Int32) (σ1 : gI) (τ1 : gJ), H_X6_at_4 N c n σ τ x1 x2 x3 = some (r, σ1, τ1) → ∀ (H : Heap) (locs : List Loc) (ls : Array Slot), gx_W gx_tb gx_tb.length E s σ τ H locs → lv_has ls 4 [(0, .ref (E.2.2 + c)), (1, .int x1), (2, .int x2), (3, .int x3)] → W P9 l e9 (gx_rm 0) s m9 av.toArray below meth C9 H locs 0 0 (gq_Qi below av s E r σ1 τ1) (F0 m9 4 ls []) := by
  intro n
  induction n with
  | zero => intro σ τ x1 x2 x3 r σ1 τ1 h; cases h
  | succ n ih =>
    intro σ τ x1 x2 x3 r σ1 τ1 h H locs ls hw hl
    exact k_X6_at_4 l S hr hlk hK N c tc (H_X6_at_4 N c n) (fun σ τ x1 x2 x3 r σ1 τ1 H locs ls h hw hl => ih σ τ x1 x2 x3 r σ1 τ1 h H locs ls hw hl) σ τ x1 x2 x3 h hw hl
set_option maxHeartbeats 4000000 in
set_option maxRecDepth 100000 in
theorem b_X6_at_0 (l : Launch) (S : CallFix P9 m9 C9 cX6_at 4 s av.toArray gx_G RX6) (hr : meth.sig.returnType = (some .int)) (hlk : meth.locks = false) (hK : gx_K E s) (N : Nat) (c : Nat) (tc : gx_isS c) (σ : gI) (τ : gJ) (x1 : Int32) {r : Int32} {σ1 : gI} {τ1 : gJ} (h : B_X6_at_0 N c σ τ x1 = some (r, σ1, τ1)) {H : Heap} {locs : List Loc} {ls : Array Slot} (hw : gx_W gx_tb gx_tb.length E s σ τ H locs) (hl : lv_has ls 4 [(0, .ref (E.2.2 + c)), (1, .int x1)]) : W P9 l e9 (gx_rm 0) s m9 av.toArray below meth C9 H locs 0 0 (gq_Qi below av s E r σ1 τ1) (F0 m9 0 ls []) := by
  have hx := S.1
  have hb := S.2.1
  unfold B_X6_at_0 at h
  refine lv_iconst (v := 0) hx hb dX6_at_0 (by decide) ?_
  refine lv_istore_n (lv' := [(2, .int 0), (0, .ref (E.2.2 + c)), (1, .int x1)]) hx hb dX6_at_1 rfl hl (by decide) rfl (fun ls hl => ?_)
  refine lv_iconst (v := 0) hx hb dX6_at_2 (by decide) ?_
  refine lv_istore_n (lv' := [(3, .int 0), (2, .int 0), (0, .ref (E.2.2 + c)), (1, .int x1)]) hx hb dX6_at_3 rfl hl (by decide) rfl (fun ls hl => ?_)
  exact h_X6_at_4 l S hr hlk hK N c tc N σ τ x1 0 0 _ _ _ h _ _ _ hw (lv_sub hl [2, 3, 1, 0] rfl)
set_option maxHeartbeats 4000000 in
set_option maxRecDepth 100000 in
theorem c_X6_at (l : Launch) {E : gE} (N : Nat) (c : Nat) (tc : gx_isS c) (σ : gI) (τ : gJ) (x1 : Int32) {r : Int32} {σ1 : gI} {τ1 : gJ} (h : B_X6_at_0 N c σ τ x1 = some (r, σ1, τ1)) : gx_Mi l yX6_at cX6_at 4 (some .int) 0 gx_tb E σ τ [.ref (E.2.2 + c), .int x1] (gq_p r σ1 τ1) := by
  refine gx_bi (by decide +kernel) (Nat.le_of_ble_eq_true rfl) ?_
  intro P9 e9 s m9 below meth C9 S hr hlk hK hw ls hl
  have hl : lv_has ls 4 [(0, .ref (E.2.2 + c)), (1, .int x1)] := hl
  exact b_X6_at_0 l S hr hlk hK N c tc σ τ x1 h hw hl
/-! J6_bitCount_0f7a4 -/
def B_J6_bitCount_0f7a4_0 (N : Nat) (σ : gI) (τ : gJ) (x0 : Int32) : Option (Int32 × gI × gJ) := nm (x0 - ((ius x0 1) &&& 1431655765)) fun v_1 => nm ((v_1 &&& 858993459) + ((ius v_1 2) &&& 858993459)) fun v_2 => nm ((v_2 + (ius v_2 4)) &&& 252645135) fun v_3 => nm (v_3 + (ius v_3 8)) fun v_4 => nm (v_4 + (ius v_4 16)) fun v_5 => some (v_5 &&& 63, σ, τ)
set_option maxHeartbeats 4000000 in
set_option maxRecDepth 100000 in
theorem b_J6_bitCount_0f7a4_0 (l : Launch) (S : CallFix P9 m9 C9 cJ6_bitCount_0f7a4 1 s av.toArray gx_G RJ6) (hr : meth.sig.returnType = (some .int)) (hlk : meth.locks = false) (hK : gx_K E s) (N : Nat) (σ : gI) (τ : gJ) (x0 : Int32) {r : Int32} {σ1 : gI} {τ1 : gJ} (h : B_J6_bitCount_0f7a4_0 N σ τ x0 = some (r, σ1, τ1)) {H : Heap} {locs : List Loc} {ls : Array Slot} (hw : gx_W gx_tb gx_tb.length E s σ τ H locs) (hl : lv_has ls 1 [(0, .int x0)]) : W P9 l e9 (gx_rm 0) s m9 av.toArray below meth C9 H locs 0 0 (gq_Qi below av s E r σ1 τ1) (F0 m9 0 ls []) := by
  have hx := S.1
  have hb := S.2.1
  unfold B_J6_bitCount_0f7a4_0 at h
  refine lv_iload_n hx hb dJ6_bitCount_0f7a4_0 rfl (lv_at hl 0 rfl) ?_
  refine lv_iload_n hx hb dJ6_bitCount_0f7a4_1 rfl (lv_at hl 0 rfl) ?_
  refine lv_iconst (v := 1) hx hb dJ6_bitCount_0f7a4_2 (by decide) ?_
  refine lv_iushr (v := ius x0 1) hx hb dJ6_bitCount_0f7a4_3 rfl ?_
  refine lv_ldcw (v := 1431655765) hx hb S.2.2.2.1 (S.2.2.2.2 _ mw_898) dJ6_bitCount_0f7a4_4 ?_
  refine lv_iand hx hb dJ6_bitCount_0f7a4_7 ?_
  refine lv_isub hx hb dJ6_bitCount_0f7a4_8 ?_
  refine lv_istore_n (lv' := [(0, .int (x0 - ((ius x0 1) &&& 1431655765)))]) hx hb dJ6_bitCount_0f7a4_9 rfl hl (by decide) rfl (fun ls hl => ?_)
  obtain ⟨v_1, e_1, h⟩ := nm_some h
  have hl : lv_has ls 1 [(0, .int v_1)] := by rw [e_1]; exact hl
  refine lv_iload_n hx hb dJ6_bitCount_0f7a4_10 rfl (lv_at hl 0 rfl) ?_
  refine lv_ldcw (v := 858993459) hx hb S.2.2.2.1 (S.2.2.2.2 _ mw_899) dJ6_bitCount_0f7a4_11 ?_
  refine lv_iand hx hb dJ6_bitCount_0f7a4_14 ?_
  refine lv_iload_n hx hb dJ6_bitCount_0f7a4_15 rfl (lv_at hl 0 rfl) ?_
  refine lv_iconst (v := 2) hx hb dJ6_bitCount_0f7a4_16 (by decide) ?_
  refine lv_iushr (v := ius v_1 2) hx hb dJ6_bitCount_0f7a4_17 rfl ?_
  refine lv_ldcw (v := 858993459) hx hb S.2.2.2.1 (S.2.2.2.2 _ mw_899) dJ6_bitCount_0f7a4_18 ?_
  refine lv_iand hx hb dJ6_bitCount_0f7a4_21 ?_
  refine lv_iadd hx hb dJ6_bitCount_0f7a4_22 ?_
  refine lv_istore_n (lv' := [(0, .int ((v_1 &&& 858993459) + ((ius v_1 2) &&& 858993459)))]) hx hb dJ6_bitCount_0f7a4_23 rfl hl (by decide) rfl (fun ls hl => ?_)
  obtain ⟨v_2, e_2, h⟩ := nm_some h
  have hl : lv_has ls 1 [(0, .int v_2)] := by rw [e_2]; exact hl
  refine lv_iload_n hx hb dJ6_bitCount_0f7a4_24 rfl (lv_at hl 0 rfl) ?_
  refine lv_iload_n hx hb dJ6_bitCount_0f7a4_25 rfl (lv_at hl 0 rfl) ?_
  refine lv_iconst (v := 4) hx hb dJ6_bitCount_0f7a4_26 (by decide) ?_
  refine lv_iushr (v := ius v_2 4) hx hb dJ6_bitCount_0f7a4_27 rfl ?_
  refine lv_iadd hx hb dJ6_bitCount_0f7a4_28 ?_
  refine lv_ldcw (v := 252645135) hx hb S.2.2.2.1 (S.2.2.2.2 _ mw_900) dJ6_bitCount_0f7a4_29 ?_
  refine lv_iand hx hb dJ6_bitCount_0f7a4_32 ?_
  refine lv_istore_n (lv' := [(0, .int ((v_2 + (ius v_2 4)) &&& 252645135))]) hx hb dJ6_bitCount_0f7a4_33 rfl hl (by decide) rfl (fun ls hl => ?_)
  obtain ⟨v_3, e_3, h⟩ := nm_some h
  have hl : lv_has ls 1 [(0, .int v_3)] := by rw [e_3]; exact hl
  refine lv_iload_n hx hb dJ6_bitCount_0f7a4_34 rfl (lv_at hl 0 rfl) ?_
  refine lv_iload_n hx hb dJ6_bitCount_0f7a4_35 rfl (lv_at hl 0 rfl) ?_
  refine lv_bipush (v := 8) hx hb dJ6_bitCount_0f7a4_36 (by decide) ?_
  refine lv_iushr (v := ius v_3 8) hx hb dJ6_bitCount_0f7a4_38 rfl ?_
  refine lv_iadd hx hb dJ6_bitCount_0f7a4_39 ?_
  refine lv_istore_n (lv' := [(0, .int (v_3 + (ius v_3 8)))]) hx hb dJ6_bitCount_0f7a4_40 rfl hl (by decide) rfl (fun ls hl => ?_)
  obtain ⟨v_4, e_4, h⟩ := nm_some h
  have hl : lv_has ls 1 [(0, .int v_4)] := by rw [e_4]; exact hl
  refine lv_iload_n hx hb dJ6_bitCount_0f7a4_41 rfl (lv_at hl 0 rfl) ?_
  refine lv_iload_n hx hb dJ6_bitCount_0f7a4_42 rfl (lv_at hl 0 rfl) ?_
  refine lv_bipush (v := 16) hx hb dJ6_bitCount_0f7a4_43 (by decide) ?_
  refine lv_iushr (v := ius v_4 16) hx hb dJ6_bitCount_0f7a4_45 rfl ?_
  refine lv_iadd hx hb dJ6_bitCount_0f7a4_46 ?_
  refine lv_istore_n (lv' := [(0, .int (v_4 + (ius v_4 16)))]) hx hb dJ6_bitCount_0f7a4_47 rfl hl (by decide) rfl (fun ls hl => ?_)
  obtain ⟨v_5, e_5, h⟩ := nm_some h
  have hl : lv_has ls 1 [(0, .int v_5)] := by rw [e_5]; exact hl
  refine lv_iload_n hx hb dJ6_bitCount_0f7a4_48 rfl (lv_at hl 0 rfl) ?_
  refine lv_bipush (v := 63) hx hb dJ6_bitCount_0f7a4_49 (by decide) ?_
  refine lv_iand hx hb dJ6_bitCount_0f7a4_51 ?_
  obtain ⟨rfl, rfl, rfl⟩ := sm_inj h
  exact gx_ri (post := gq_p (v_5 &&& 63) σ τ) (v := v_5 &&& 63) S hr hlk hw rfl dJ6_bitCount_0f7a4_52 ⟨rfl, rfl, rfl⟩
set_option maxHeartbeats 4000000 in
set_option maxRecDepth 100000 in
theorem c_J6_bitCount_0f7a4 (l : Launch) {E : gE} (N : Nat) (σ : gI) (τ : gJ) (x0 : Int32) {r : Int32} {σ1 : gI} {τ1 : gJ} (h : B_J6_bitCount_0f7a4_0 N σ τ x0 = some (r, σ1, τ1)) : gx_Mi l yJ6_bitCount_0f7a4 cJ6_bitCount_0f7a4 1 (some .int) 0 gx_tb E σ τ [.int x0] (gq_p r σ1 τ1) := by
  refine gx_bi (by decide +kernel) (Nat.le_of_ble_eq_true rfl) ?_
  intro P9 e9 s m9 below meth C9 S hr hlk hK hw ls hl
  have hl : lv_has ls 1 [(0, .int x0)] := hl
  exact b_J6_bitCount_0f7a4_0 l S hr hlk hK N σ τ x0 h hw hl
/-! X5_value -/
def B_X5_value_115 (N : Nat) (rec_4 : gI → gJ → Int32 → Int32 → Option (Int32 × gI × gJ)) (σ : gI) (τ : gJ) (x3 : Int32) (x4 : Int32) (y0 : Int32) (y1 : Int32) : Option (Int32 × gI × gJ) := nm (y1 - y0) fun v_1 => ck (v_1 - 1) 40 fun j_2 => nm (σ 19 j_2) fun v_3 => ck v_1 40 fun j_4 => nm (σ 19 j_4) fun v_5 => if x4 = 8 then (nm (up2 σ 19 j_2 (-v_3)) fun σ_7 => nm (x3 + 1) fun v_8 => rec_4 σ_7 τ v_1 v_8) else if x4 = 9 then (nm (up2 σ 19 j_2 (v_3 + v_5)) fun σ_10 => nm (x3 + 1) fun v_11 => rec_4 σ_10 τ v_1 v_11) else if x4 = 10 then (nm (up2 σ 19 j_2 (v_3 - v_5)) fun σ_13 => nm (x3 + 1) fun v_14 => rec_4 σ_13 τ v_1 v_14) else if x4 = 11 then (nm (up2 σ 19 j_2 (v_3 * v_5)) fun σ_16 => nm (x3 + 1) fun v_17 => rec_4 σ_16 τ v_1 v_17) else if x4 = 12 then (if v_5 = 0 then (nm (up2 σ 19 j_2 0) fun σ_23 => nm (x3 + 1) fun v_24 => rec_4 σ_23 τ v_1 v_24) else (dz v_5 <| nm (up2 σ 19 j_2 (v_3 / v_5)) fun σ_21 => nm (x3 + 1) fun v_22 => rec_4 σ_21 τ v_1 v_22)) else if x4 = 13 then (if v_5 ≤ v_3 then (nm (up2 σ 19 j_2 0) fun σ_27 => nm (x3 + 1) fun v_28 => rec_4 σ_27 τ v_1 v_28) else (nm (up2 σ 19 j_2 1) fun σ_29 => nm (x3 + 1) fun v_30 => rec_4 σ_29 τ v_1 v_30)) else if x4 = 14 then (if v_3 ≤ v_5 then (nm (up2 σ 19 j_2 0) fun σ_33 => nm (x3 + 1) fun v_34 => rec_4 σ_33 τ v_1 v_34) else (nm (up2 σ 19 j_2 1) fun σ_35 => nm (x3 + 1) fun v_36 => rec_4 σ_35 τ v_1 v_36)) else (if v_3 = v_5 then (nm (up2 σ 19 j_2 1) fun σ_40 => nm (x3 + 1) fun v_41 => rec_4 σ_40 τ v_1 v_41) else (nm (up2 σ 19 j_2 0) fun σ_38 => nm (x3 + 1) fun v_39 => rec_4 σ_38 τ v_1 v_39))
def B_X5_value_84 (N : Nat) (rec_4 : gI → gJ → Int32 → Int32 → Option (Int32 × gI × gJ)) (σ : gI) (τ : gJ) (x2 : Int32) (x3 : Int32) (x4 : Int32) : Option (Int32 × gI × gJ) := if x4 = 8 then (if 1 ≤ x2 then (if x4 = 8 then (B_X5_value_115 N rec_4 σ τ x3 x4 0 x2) else (B_X5_value_115 N rec_4 σ τ x3 x4 1 x2)) else (some (0, σ, τ))) else (if 2 ≤ x2 then (if x4 = 8 then (B_X5_value_115 N rec_4 σ τ x3 x4 0 x2) else (B_X5_value_115 N rec_4 σ τ x3 x4 1 x2)) else (some (0, σ, τ)))
def C_X5_value_4 (N : Nat) (rec_4 : gI → gJ → Int32 → Int32 → Option (Int32 × gI × gJ)) (σ : gI) (τ : gJ) (x2 : Int32) (x3 : Int32) : Option (Int32 × gI × gJ) := if σ 17 3 ≤ x3 then (some (σ 19 0, σ, τ)) else (if 40 ≤ x3 then (some (σ 19 0, σ, τ)) else (if 40 ≤ x2 then (some (σ 19 0, σ, τ)) else (ck x3 40 fun j_4 => nm (σ 18 j_4) fun v_5 => if v_5 < 32 then (if v_5 < 0 then (B_X5_value_84 N rec_4 σ τ x2 x3 v_5) else (if 8 ≤ v_5 then (B_X5_value_84 N rec_4 σ τ x2 x3 v_5) else (nm (x2 + 1) fun v_9 => ck v_5 8 fun j_10 => ck x2 40 fun j_11 => nm (up2 σ 19 j_11 (σ 159 j_10)) fun σ_12 => nm (x3 + 1) fun v_13 => rec_4 σ_12 τ v_9 v_13))) else (nm (x2 + 1) fun v_14 => ck x2 40 fun j_15 => nm (up2 σ 19 j_15 (v_5 - 32)) fun σ_16 => nm (x3 + 1) fun v_17 => rec_4 σ_16 τ v_14 v_17))))
def H_X5_value_4 (N : Nat) : Nat → gI → gJ → Int32 → Int32 → Option (Int32 × gI × gJ) := itn (fun rec_4 => C_X5_value_4 N rec_4) (fun _ _ _ _ => none)
def B_X5_value_0 (N : Nat) (σ : gI) (τ : gJ) : Option (Int32 × gI × gJ) := H_X5_value_4 N N σ τ 0 0
set_option maxHeartbeats 4000000 in
set_option maxRecDepth 100000 in
theorem b_X5_value_115 (l : Launch) (S : CallFix P9 m9 C9 cX5_value 7 s av.toArray gx_G RX5) (hr : meth.sig.returnType = (some .int)) (hlk : meth.locks = false) (hK : gx_K E s) (N : Nat) (rec_4 : gI → gJ → Int32 → Int32 → Option (Int32 × gI × gJ)) (hrec_4 : ∀ (σ : gI) (τ : gJ) (x2 : Int32) (x3 : Int32) (r : Int32) (σ1 : gI) (τ1 : gJ) (H : Heap) (locs : List Loc) (ls : Array Slot), rec_4 σ τ x2 x3 = some (r, σ1, τ1) → gx_W gx_tb gx_tb.length E s σ τ H locs → lv_has ls 7 [(0, .ref (E.2.2 + 17)), (1, .ref (E.2.2 + 159)), (2, .int x2), (3, .int x3)] → W P9 l e9 (gx_rm 0) s m9 av.toArray below meth C9 H locs 0 0 (gq_Qi below av s E r σ1 τ1) (F0 m9 4 ls [])) (σ : gI) (τ : gJ) (x3 : Int32) (x4 : Int32) (y0 : Int32) (y1 : Int32) {r : Int32} {σ1 : gI} {τ1 : gJ} (h : B_X5_value_115 N rec_4 σ τ x3 x4 y0 y1 = some (r, σ1, τ1)) {H : Heap} {locs : List Loc} {ls : Array Slot} (hw : gx_W gx_tb gx_tb.length E s σ τ H locs) (hl : lv_has ls 7 [(0, .ref (E.2.2 + 17)), (1, .ref (E.2.2 + 159)), (3, .int x3), (4, .int x4)]) : W P9 l e9 (gx_rm 0) s m9 av.toArray below meth C9 H locs 0 0 (gq_Qi below av s E r σ1 τ1) (F0 m9 115 ls [.int y0, .int y1]) := by
  have hx := S.1
  have hb := S.2.1
  unfold B_X5_value_115 at h
  refine lv_isub hx hb dX5_value_115 ?_
  refine lv_istore_n (lv' := [(2, .int (y1 - y0)), (0, .ref (E.2.2 + 17)), (1, .ref (E.2.2 + 159)), (3, .int x3), (4, .int x4)]) hx hb dX5_value_116 rfl hl (by decide) rfl (fun ls hl => ?_)
  obtain ⟨v_1, e_1, h⟩ := nm_some h
  have hl : lv_has ls 7 [(2, .int v_1), (0, .ref (E.2.2 + 17)), (1, .ref (E.2.2 + 159)), (3, .int x3), (4, .int x4)] := by rw [e_1]; exact hl
  refine lv_aload_n hx hb dX5_value_117 rfl (lv_at hl 1 rfl) ?_
  refine gx_getr (j := 19) S hK hw t_17 cl_6 1 (by decide) rfl mw_201 rfl dX5_value_118 ?_
  refine lv_iload_n hx hb dX5_value_121 rfl (lv_at hl 0 rfl) ?_
  refine lv_iconst (v := 1) hx hb dX5_value_122 (by decide) ?_
  refine lv_isub hx hb dX5_value_123 ?_
  obtain ⟨j_2, hj_2, hi_2, h⟩ := ck_some h
  refine gx_iald S hK hw t_19 j_2 hj_2 hi_2 dX5_value_124 ?_
  refine lv_istore (lv' := [(5, .int (σ 19 j_2)), (2, .int v_1), (0, .ref (E.2.2 + 17)), (1, .ref (E.2.2 + 159)), (3, .int x3), (4, .int x4)]) hx hb dX5_value_125 hl (by decide) rfl (fun ls hl => ?_)
  obtain ⟨v_3, e_3, h⟩ := nm_some h
  have hl : lv_has ls 7 [(5, .int v_3), (2, .int v_1), (0, .ref (E.2.2 + 17)), (1, .ref (E.2.2 + 159)), (3, .int x3), (4, .int x4)] := by rw [e_3]; exact hl
  refine lv_aload_n hx hb dX5_value_127 rfl (lv_at hl 2 rfl) ?_
  refine gx_getr (j := 19) S hK hw t_17 cl_6 1 (by decide) rfl mw_201 rfl dX5_value_128 ?_
  refine lv_iload_n hx hb dX5_value_131 rfl (lv_at hl 1 rfl) ?_
  obtain ⟨j_4, hj_4, hi_4, h⟩ := ck_some h
  refine gx_iald S hK hw t_19 j_4 hj_4 hi_4 dX5_value_132 ?_
  refine lv_istore (lv' := [(6, .int (σ 19 j_4)), (5, .int v_3), (2, .int v_1), (0, .ref (E.2.2 + 17)), (1, .ref (E.2.2 + 159)), (3, .int x3), (4, .int x4)]) hx hb dX5_value_133 hl (by decide) rfl (fun ls hl => ?_)
  obtain ⟨v_5, e_5, h⟩ := nm_some h
  have hl : lv_has ls 7 [(6, .int v_5), (5, .int v_3), (2, .int v_1), (0, .ref (E.2.2 + 17)), (1, .ref (E.2.2 + 159)), (3, .int x3), (4, .int x4)] := by rw [e_5]; exact hl
  refine lv_iload hx hb dX5_value_135 (lv_at hl 6 rfl) ?_
  by_cases c_6 : x4 = 8
  · rw [if_pos c_6] at h
    refine gx_top (v := 8) c_6 ?_
    refine lv_tableIn (tgt := 180) hx hb dX5_value_137 (by decide) (by decide) rfl (by decide) ?_
    refine lv_aload_n hx hb dX5_value_180 rfl (lv_at hl 3 rfl) ?_
    refine gx_getr (j := 19) S hK hw t_17 cl_6 1 (by decide) rfl mw_201 rfl dX5_value_181 ?_
    refine lv_iload_n hx hb dX5_value_184 rfl (lv_at hl 2 rfl) ?_
    refine lv_iconst (v := 1) hx hb dX5_value_185 (by decide) ?_
    refine lv_isub hx hb dX5_value_186 ?_
    refine lv_iload hx hb dX5_value_187 (lv_at hl 1 rfl) ?_
    refine lv_ineg hx hb dX5_value_189 ?_
    refine gx_iast S hK gx_ok hw t_19 j_2 hj_2 hi_2 dX5_value_190 (fun H locs hw => ?_)
    obtain ⟨σ_7, e_7, h⟩ := nm_some h
    rw [← e_7] at hw
    refine lv_goto (tgt := 333) hx hb dX5_value_191 (by decide) ?_
    refine lv_iinc (v := x3 + 1) (lv' := [(3, .int (x3 + 1)), (6, .int v_5), (5, .int v_3), (2, .int v_1), (0, .ref (E.2.2 + 17)), (1, .ref (E.2.2 + 159)), (4, .int x4)]) hx hb dX5_value_333 hl (k := 5) rfl rfl (by decide) rfl (fun ls hl => ?_)
    obtain ⟨v_8, e_8, h⟩ := nm_some h
    have hl : lv_has ls 7 [(3, .int v_8), (6, .int v_5), (5, .int v_3), (2, .int v_1), (0, .ref (E.2.2 + 17)), (1, .ref (E.2.2 + 159)), (4, .int x4)] := by rw [e_8]; exact hl
    refine lv_goto (tgt := 4) hx hb dX5_value_336 (by decide) ?_
    exact hrec_4 σ_7 τ v_1 v_8 _ _ _ _ _ _ h hw (lv_sub hl [4, 5, 3, 0] rfl)
  rw [if_neg c_6] at h
  by_cases c_9 : x4 = 9
  · rw [if_pos c_9] at h
    refine gx_top (v := 9) c_9 ?_
    refine lv_tableIn (tgt := 194) hx hb dX5_value_137 (by decide) (by decide) rfl (by decide) ?_
    refine lv_aload_n hx hb dX5_value_194 rfl (lv_at hl 3 rfl) ?_
    refine gx_getr (j := 19) S hK hw t_17 cl_6 1 (by decide) rfl mw_201 rfl dX5_value_195 ?_
    refine lv_iload_n hx hb dX5_value_198 rfl (lv_at hl 2 rfl) ?_
    refine lv_iconst (v := 1) hx hb dX5_value_199 (by decide) ?_
    refine lv_isub hx hb dX5_value_200 ?_
    refine lv_iload hx hb dX5_value_201 (lv_at hl 1 rfl) ?_
    refine lv_iload hx hb dX5_value_203 (lv_at hl 0 rfl) ?_
    refine lv_iadd hx hb dX5_value_205 ?_
    refine gx_iast S hK gx_ok hw t_19 j_2 hj_2 hi_2 dX5_value_206 (fun H locs hw => ?_)
    obtain ⟨σ_10, e_10, h⟩ := nm_some h
    rw [← e_10] at hw
    refine lv_goto (tgt := 333) hx hb dX5_value_207 (by decide) ?_
    refine lv_iinc (v := x3 + 1) (lv' := [(3, .int (x3 + 1)), (6, .int v_5), (5, .int v_3), (2, .int v_1), (0, .ref (E.2.2 + 17)), (1, .ref (E.2.2 + 159)), (4, .int x4)]) hx hb dX5_value_333 hl (k := 5) rfl rfl (by decide) rfl (fun ls hl => ?_)
    obtain ⟨v_11, e_11, h⟩ := nm_some h
    have hl : lv_has ls 7 [(3, .int v_11), (6, .int v_5), (5, .int v_3), (2, .int v_1), (0, .ref (E.2.2 + 17)), (1, .ref (E.2.2 + 159)), (4, .int x4)] := by rw [e_11]; exact hl
    refine lv_goto (tgt := 4) hx hb dX5_value_336 (by decide) ?_
    exact hrec_4 σ_10 τ v_1 v_11 _ _ _ _ _ _ h hw (lv_sub hl [4, 5, 3, 0] rfl)
  rw [if_neg c_9] at h
  by_cases c_12 : x4 = 10
  · rw [if_pos c_12] at h
    refine gx_top (v := 10) c_12 ?_
    refine lv_tableIn (tgt := 210) hx hb dX5_value_137 (by decide) (by decide) rfl (by decide) ?_
    refine lv_aload_n hx hb dX5_value_210 rfl (lv_at hl 3 rfl) ?_
    refine gx_getr (j := 19) S hK hw t_17 cl_6 1 (by decide) rfl mw_201 rfl dX5_value_211 ?_
    refine lv_iload_n hx hb dX5_value_214 rfl (lv_at hl 2 rfl) ?_
    refine lv_iconst (v := 1) hx hb dX5_value_215 (by decide) ?_
    refine lv_isub hx hb dX5_value_216 ?_
    refine lv_iload hx hb dX5_value_217 (lv_at hl 1 rfl) ?_
    refine lv_iload hx hb dX5_value_219 (lv_at hl 0 rfl) ?_
    refine lv_isub hx hb dX5_value_221 ?_
    refine gx_iast S hK gx_ok hw t_19 j_2 hj_2 hi_2 dX5_value_222 (fun H locs hw => ?_)
    obtain ⟨σ_13, e_13, h⟩ := nm_some h
    rw [← e_13] at hw
    refine lv_goto (tgt := 333) hx hb dX5_value_223 (by decide) ?_
    refine lv_iinc (v := x3 + 1) (lv' := [(3, .int (x3 + 1)), (6, .int v_5), (5, .int v_3), (2, .int v_1), (0, .ref (E.2.2 + 17)), (1, .ref (E.2.2 + 159)), (4, .int x4)]) hx hb dX5_value_333 hl (k := 5) rfl rfl (by decide) rfl (fun ls hl => ?_)
    obtain ⟨v_14, e_14, h⟩ := nm_some h
    have hl : lv_has ls 7 [(3, .int v_14), (6, .int v_5), (5, .int v_3), (2, .int v_1), (0, .ref (E.2.2 + 17)), (1, .ref (E.2.2 + 159)), (4, .int x4)] := by rw [e_14]; exact hl
    refine lv_goto (tgt := 4) hx hb dX5_value_336 (by decide) ?_
    exact hrec_4 σ_13 τ v_1 v_14 _ _ _ _ _ _ h hw (lv_sub hl [4, 5, 3, 0] rfl)
  rw [if_neg c_12] at h
  by_cases c_15 : x4 = 11
  · rw [if_pos c_15] at h
    refine gx_top (v := 11) c_15 ?_
    refine lv_tableIn (tgt := 226) hx hb dX5_value_137 (by decide) (by decide) rfl (by decide) ?_
    refine lv_aload_n hx hb dX5_value_226 rfl (lv_at hl 3 rfl) ?_
    refine gx_getr (j := 19) S hK hw t_17 cl_6 1 (by decide) rfl mw_201 rfl dX5_value_227 ?_
    refine lv_iload_n hx hb dX5_value_230 rfl (lv_at hl 2 rfl) ?_
    refine lv_iconst (v := 1) hx hb dX5_value_231 (by decide) ?_
    refine lv_isub hx hb dX5_value_232 ?_
    refine lv_iload hx hb dX5_value_233 (lv_at hl 1 rfl) ?_
    refine lv_iload hx hb dX5_value_235 (lv_at hl 0 rfl) ?_
    refine lv_imul hx hb dX5_value_237 ?_
    refine gx_iast S hK gx_ok hw t_19 j_2 hj_2 hi_2 dX5_value_238 (fun H locs hw => ?_)
    obtain ⟨σ_16, e_16, h⟩ := nm_some h
    rw [← e_16] at hw
    refine lv_goto (tgt := 333) hx hb dX5_value_239 (by decide) ?_
    refine lv_iinc (v := x3 + 1) (lv' := [(3, .int (x3 + 1)), (6, .int v_5), (5, .int v_3), (2, .int v_1), (0, .ref (E.2.2 + 17)), (1, .ref (E.2.2 + 159)), (4, .int x4)]) hx hb dX5_value_333 hl (k := 5) rfl rfl (by decide) rfl (fun ls hl => ?_)
    obtain ⟨v_17, e_17, h⟩ := nm_some h
    have hl : lv_has ls 7 [(3, .int v_17), (6, .int v_5), (5, .int v_3), (2, .int v_1), (0, .ref (E.2.2 + 17)), (1, .ref (E.2.2 + 159)), (4, .int x4)] := by rw [e_17]; exact hl
    refine lv_goto (tgt := 4) hx hb dX5_value_336 (by decide) ?_
    exact hrec_4 σ_16 τ v_1 v_17 _ _ _ _ _ _ h hw (lv_sub hl [4, 5, 3, 0] rfl)
  rw [if_neg c_15] at h
  by_cases c_18 : x4 = 12
  · rw [if_pos c_18] at h
    refine gx_top (v := 12) c_18 ?_
    refine lv_tableIn (tgt := 242) hx hb dX5_value_137 (by decide) (by decide) rfl (by decide) ?_
    refine lv_aload_n hx hb dX5_value_242 rfl (lv_at hl 3 rfl) ?_
    refine gx_getr (j := 19) S hK hw t_17 cl_6 1 (by decide) rfl mw_201 rfl dX5_value_243 ?_
    refine lv_iload_n hx hb dX5_value_246 rfl (lv_at hl 2 rfl) ?_
    refine lv_iconst (v := 1) hx hb dX5_value_247 (by decide) ?_
    refine lv_isub hx hb dX5_value_248 ?_
    refine lv_iload hx hb dX5_value_249 (lv_at hl 0 rfl) ?_
    refine lv_if_ne (tgt := 258) hx hb dX5_value_251 (by decide) (fun c_19 => ?_) (fun c_19 => ?_)
    · rw [if_neg c_19] at h
      refine lv_iload hx hb dX5_value_258 (lv_at hl 1 rfl) ?_
      refine lv_iload hx hb dX5_value_260 (lv_at hl 0 rfl) ?_
      obtain ⟨hz_20, h⟩ := dz_some h
      refine lv_idiv hx hb dX5_value_262 hz_20 ?_
      refine gx_iast S hK gx_ok hw t_19 j_2 hj_2 hi_2 dX5_value_263 (fun H locs hw => ?_)
      obtain ⟨σ_21, e_21, h⟩ := nm_some h
      rw [← e_21] at hw
      refine lv_goto (tgt := 333) hx hb dX5_value_264 (by decide) ?_
      refine lv_iinc (v := x3 + 1) (lv' := [(3, .int (x3 + 1)), (6, .int v_5), (5, .int v_3), (2, .int v_1), (0, .ref (E.2.2 + 17)), (1, .ref (E.2.2 + 159)), (4, .int x4)]) hx hb dX5_value_333 hl (k := 5) rfl rfl (by decide) rfl (fun ls hl => ?_)
      obtain ⟨v_22, e_22, h⟩ := nm_some h
      have hl : lv_has ls 7 [(3, .int v_22), (6, .int v_5), (5, .int v_3), (2, .int v_1), (0, .ref (E.2.2 + 17)), (1, .ref (E.2.2 + 159)), (4, .int x4)] := by rw [e_22]; exact hl
      refine lv_goto (tgt := 4) hx hb dX5_value_336 (by decide) ?_
      exact hrec_4 σ_21 τ v_1 v_22 _ _ _ _ _ _ h hw (lv_sub hl [4, 5, 3, 0] rfl)
    · rw [if_pos c_19] at h
      refine lv_iconst (v := 0) hx hb dX5_value_254 (by decide) ?_
      refine lv_goto (tgt := 263) hx hb dX5_value_255 (by decide) ?_
      refine gx_iast S hK gx_ok hw t_19 j_2 hj_2 hi_2 dX5_value_263 (fun H locs hw => ?_)
      obtain ⟨σ_23, e_23, h⟩ := nm_some h
      rw [← e_23] at hw
      refine lv_goto (tgt := 333) hx hb dX5_value_264 (by decide) ?_
      refine lv_iinc (v := x3 + 1) (lv' := [(3, .int (x3 + 1)), (6, .int v_5), (5, .int v_3), (2, .int v_1), (0, .ref (E.2.2 + 17)), (1, .ref (E.2.2 + 159)), (4, .int x4)]) hx hb dX5_value_333 hl (k := 5) rfl rfl (by decide) rfl (fun ls hl => ?_)
      obtain ⟨v_24, e_24, h⟩ := nm_some h
      have hl : lv_has ls 7 [(3, .int v_24), (6, .int v_5), (5, .int v_3), (2, .int v_1), (0, .ref (E.2.2 + 17)), (1, .ref (E.2.2 + 159)), (4, .int x4)] := by rw [e_24]; exact hl
      refine lv_goto (tgt := 4) hx hb dX5_value_336 (by decide) ?_
      exact hrec_4 σ_23 τ v_1 v_24 _ _ _ _ _ _ h hw (lv_sub hl [4, 5, 3, 0] rfl)
  rw [if_neg c_18] at h
  by_cases c_25 : x4 = 13
  · rw [if_pos c_25] at h
    refine gx_top (v := 13) c_25 ?_
    refine lv_tableIn (tgt := 267) hx hb dX5_value_137 (by decide) (by decide) rfl (by decide) ?_
    refine lv_aload_n hx hb dX5_value_267 rfl (lv_at hl 3 rfl) ?_
    refine gx_getr (j := 19) S hK hw t_17 cl_6 1 (by decide) rfl mw_201 rfl dX5_value_268 ?_
    refine lv_iload_n hx hb dX5_value_271 rfl (lv_at hl 2 rfl) ?_
    refine lv_iconst (v := 1) hx hb dX5_value_272 (by decide) ?_
    refine lv_isub hx hb dX5_value_273 ?_
    refine lv_iload hx hb dX5_value_274 (lv_at hl 1 rfl) ?_
    refine lv_iload hx hb dX5_value_276 (lv_at hl 0 rfl) ?_
    refine lv_icmp_ge (tgt := 285) hx hb dX5_value_278 (by decide) (fun c_26 => ?_) (fun c_26 => ?_)
    · rw [if_pos c_26] at h
      refine lv_iconst (v := 0) hx hb dX5_value_285 (by decide) ?_
      refine gx_iast S hK gx_ok hw t_19 j_2 hj_2 hi_2 dX5_value_286 (fun H locs hw => ?_)
      obtain ⟨σ_27, e_27, h⟩ := nm_some h
      rw [← e_27] at hw
      refine lv_goto (tgt := 333) hx hb dX5_value_287 (by decide) ?_
      refine lv_iinc (v := x3 + 1) (lv' := [(3, .int (x3 + 1)), (6, .int v_5), (5, .int v_3), (2, .int v_1), (0, .ref (E.2.2 + 17)), (1, .ref (E.2.2 + 159)), (4, .int x4)]) hx hb dX5_value_333 hl (k := 5) rfl rfl (by decide) rfl (fun ls hl => ?_)
      obtain ⟨v_28, e_28, h⟩ := nm_some h
      have hl : lv_has ls 7 [(3, .int v_28), (6, .int v_5), (5, .int v_3), (2, .int v_1), (0, .ref (E.2.2 + 17)), (1, .ref (E.2.2 + 159)), (4, .int x4)] := by rw [e_28]; exact hl
      refine lv_goto (tgt := 4) hx hb dX5_value_336 (by decide) ?_
      exact hrec_4 σ_27 τ v_1 v_28 _ _ _ _ _ _ h hw (lv_sub hl [4, 5, 3, 0] rfl)
    · rw [if_neg c_26] at h
      refine lv_iconst (v := 1) hx hb dX5_value_281 (by decide) ?_
      refine lv_goto (tgt := 286) hx hb dX5_value_282 (by decide) ?_
      refine gx_iast S hK gx_ok hw t_19 j_2 hj_2 hi_2 dX5_value_286 (fun H locs hw => ?_)
      obtain ⟨σ_29, e_29, h⟩ := nm_some h
      rw [← e_29] at hw
      refine lv_goto (tgt := 333) hx hb dX5_value_287 (by decide) ?_
      refine lv_iinc (v := x3 + 1) (lv' := [(3, .int (x3 + 1)), (6, .int v_5), (5, .int v_3), (2, .int v_1), (0, .ref (E.2.2 + 17)), (1, .ref (E.2.2 + 159)), (4, .int x4)]) hx hb dX5_value_333 hl (k := 5) rfl rfl (by decide) rfl (fun ls hl => ?_)
      obtain ⟨v_30, e_30, h⟩ := nm_some h
      have hl : lv_has ls 7 [(3, .int v_30), (6, .int v_5), (5, .int v_3), (2, .int v_1), (0, .ref (E.2.2 + 17)), (1, .ref (E.2.2 + 159)), (4, .int x4)] := by rw [e_30]; exact hl
      refine lv_goto (tgt := 4) hx hb dX5_value_336 (by decide) ?_
      exact hrec_4 σ_29 τ v_1 v_30 _ _ _ _ _ _ h hw (lv_sub hl [4, 5, 3, 0] rfl)
  rw [if_neg c_25] at h
  by_cases c_31 : x4 = 14
  · rw [if_pos c_31] at h
    refine gx_top (v := 14) c_31 ?_
    refine lv_tableIn (tgt := 290) hx hb dX5_value_137 (by decide) (by decide) rfl (by decide) ?_
    refine lv_aload_n hx hb dX5_value_290 rfl (lv_at hl 3 rfl) ?_
    refine gx_getr (j := 19) S hK hw t_17 cl_6 1 (by decide) rfl mw_201 rfl dX5_value_291 ?_
    refine lv_iload_n hx hb dX5_value_294 rfl (lv_at hl 2 rfl) ?_
    refine lv_iconst (v := 1) hx hb dX5_value_295 (by decide) ?_
    refine lv_isub hx hb dX5_value_296 ?_
    refine lv_iload hx hb dX5_value_297 (lv_at hl 1 rfl) ?_
    refine lv_iload hx hb dX5_value_299 (lv_at hl 0 rfl) ?_
    refine lv_icmp_le (tgt := 308) hx hb dX5_value_301 (by decide) (fun c_32 => ?_) (fun c_32 => ?_)
    · rw [if_pos c_32] at h
      refine lv_iconst (v := 0) hx hb dX5_value_308 (by decide) ?_
      refine gx_iast S hK gx_ok hw t_19 j_2 hj_2 hi_2 dX5_value_309 (fun H locs hw => ?_)
      obtain ⟨σ_33, e_33, h⟩ := nm_some h
      rw [← e_33] at hw
      refine lv_goto (tgt := 333) hx hb dX5_value_310 (by decide) ?_
      refine lv_iinc (v := x3 + 1) (lv' := [(3, .int (x3 + 1)), (6, .int v_5), (5, .int v_3), (2, .int v_1), (0, .ref (E.2.2 + 17)), (1, .ref (E.2.2 + 159)), (4, .int x4)]) hx hb dX5_value_333 hl (k := 5) rfl rfl (by decide) rfl (fun ls hl => ?_)
      obtain ⟨v_34, e_34, h⟩ := nm_some h
      have hl : lv_has ls 7 [(3, .int v_34), (6, .int v_5), (5, .int v_3), (2, .int v_1), (0, .ref (E.2.2 + 17)), (1, .ref (E.2.2 + 159)), (4, .int x4)] := by rw [e_34]; exact hl
      refine lv_goto (tgt := 4) hx hb dX5_value_336 (by decide) ?_
      exact hrec_4 σ_33 τ v_1 v_34 _ _ _ _ _ _ h hw (lv_sub hl [4, 5, 3, 0] rfl)
    · rw [if_neg c_32] at h
      refine lv_iconst (v := 1) hx hb dX5_value_304 (by decide) ?_
      refine lv_goto (tgt := 309) hx hb dX5_value_305 (by decide) ?_
      refine gx_iast S hK gx_ok hw t_19 j_2 hj_2 hi_2 dX5_value_309 (fun H locs hw => ?_)
      obtain ⟨σ_35, e_35, h⟩ := nm_some h
      rw [← e_35] at hw
      refine lv_goto (tgt := 333) hx hb dX5_value_310 (by decide) ?_
      refine lv_iinc (v := x3 + 1) (lv' := [(3, .int (x3 + 1)), (6, .int v_5), (5, .int v_3), (2, .int v_1), (0, .ref (E.2.2 + 17)), (1, .ref (E.2.2 + 159)), (4, .int x4)]) hx hb dX5_value_333 hl (k := 5) rfl rfl (by decide) rfl (fun ls hl => ?_)
      obtain ⟨v_36, e_36, h⟩ := nm_some h
      have hl : lv_has ls 7 [(3, .int v_36), (6, .int v_5), (5, .int v_3), (2, .int v_1), (0, .ref (E.2.2 + 17)), (1, .ref (E.2.2 + 159)), (4, .int x4)] := by rw [e_36]; exact hl
      refine lv_goto (tgt := 4) hx hb dX5_value_336 (by decide) ?_
      exact hrec_4 σ_35 τ v_1 v_36 _ _ _ _ _ _ h hw (lv_sub hl [4, 5, 3, 0] rfl)
  rw [if_neg c_31] at h
  refine lv_tableOut (tgt := 313) hx hb dX5_value_137 (by have t_6 := lv_neT (a := 8) c_6 rfl; have t_9 := lv_neT (a := 9) c_9 rfl; have t_12 := lv_neT (a := 10) c_12 rfl; have t_15 := lv_neT (a := 11) c_15 rfl; have t_18 := lv_neT (a := 12) c_18 rfl; have t_25 := lv_neT (a := 13) c_25 rfl; have t_31 := lv_neT (a := 14) c_31 rfl; omega) (by decide) ?_
  refine lv_aload_n hx hb dX5_value_313 rfl (lv_at hl 3 rfl) ?_
  refine gx_getr (j := 19) S hK hw t_17 cl_6 1 (by decide) rfl mw_201 rfl dX5_value_314 ?_
  refine lv_iload_n hx hb dX5_value_317 rfl (lv_at hl 2 rfl) ?_
  refine lv_iconst (v := 1) hx hb dX5_value_318 (by decide) ?_
  refine lv_isub hx hb dX5_value_319 ?_
  refine lv_iload hx hb dX5_value_320 (lv_at hl 1 rfl) ?_
  refine lv_iload hx hb dX5_value_322 (lv_at hl 0 rfl) ?_
  refine lv_icmp_ne (tgt := 331) hx hb dX5_value_324 (by decide) (fun c_37 => ?_) (fun c_37 => ?_)
  · rw [if_neg c_37] at h
    refine lv_iconst (v := 0) hx hb dX5_value_331 (by decide) ?_
    refine gx_iast S hK gx_ok hw t_19 j_2 hj_2 hi_2 dX5_value_332 (fun H locs hw => ?_)
    obtain ⟨σ_38, e_38, h⟩ := nm_some h
    rw [← e_38] at hw
    refine lv_iinc (v := x3 + 1) (lv' := [(3, .int (x3 + 1)), (6, .int v_5), (5, .int v_3), (2, .int v_1), (0, .ref (E.2.2 + 17)), (1, .ref (E.2.2 + 159)), (4, .int x4)]) hx hb dX5_value_333 hl (k := 5) rfl rfl (by decide) rfl (fun ls hl => ?_)
    obtain ⟨v_39, e_39, h⟩ := nm_some h
    have hl : lv_has ls 7 [(3, .int v_39), (6, .int v_5), (5, .int v_3), (2, .int v_1), (0, .ref (E.2.2 + 17)), (1, .ref (E.2.2 + 159)), (4, .int x4)] := by rw [e_39]; exact hl
    refine lv_goto (tgt := 4) hx hb dX5_value_336 (by decide) ?_
    exact hrec_4 σ_38 τ v_1 v_39 _ _ _ _ _ _ h hw (lv_sub hl [4, 5, 3, 0] rfl)
  · rw [if_pos c_37] at h
    refine lv_iconst (v := 1) hx hb dX5_value_327 (by decide) ?_
    refine lv_goto (tgt := 332) hx hb dX5_value_328 (by decide) ?_
    refine gx_iast S hK gx_ok hw t_19 j_2 hj_2 hi_2 dX5_value_332 (fun H locs hw => ?_)
    obtain ⟨σ_40, e_40, h⟩ := nm_some h
    rw [← e_40] at hw
    refine lv_iinc (v := x3 + 1) (lv' := [(3, .int (x3 + 1)), (6, .int v_5), (5, .int v_3), (2, .int v_1), (0, .ref (E.2.2 + 17)), (1, .ref (E.2.2 + 159)), (4, .int x4)]) hx hb dX5_value_333 hl (k := 5) rfl rfl (by decide) rfl (fun ls hl => ?_)
    obtain ⟨v_41, e_41, h⟩ := nm_some h
    have hl : lv_has ls 7 [(3, .int v_41), (6, .int v_5), (5, .int v_3), (2, .int v_1), (0, .ref (E.2.2 + 17)), (1, .ref (E.2.2 + 159)), (4, .int x4)] := by rw [e_41]; exact hl
    refine lv_goto (tgt := 4) hx hb dX5_value_336 (by decide) ?_
    exact hrec_4 σ_40 τ v_1 v_41 _ _ _ _ _ _ h hw (lv_sub hl [4, 5, 3, 0] rfl)
set_option maxHeartbeats 4000000 in
set_option maxRecDepth 100000 in
theorem b_X5_value_84 (l : Launch) (S : CallFix P9 m9 C9 cX5_value 7 s av.toArray gx_G RX5) (hr : meth.sig.returnType = (some .int)) (hlk : meth.locks = false) (hK : gx_K E s) (N : Nat) (rec_4 : gI → gJ → Int32 → Int32 → Option (Int32 × gI × gJ)) (hrec_4 : ∀ (σ : gI) (τ : gJ) (x2 : Int32) (x3 : Int32) (r : Int32) (σ1 : gI) (τ1 : gJ) (H : Heap) (locs : List Loc) (ls : Array Slot), rec_4 σ τ x2 x3 = some (r, σ1, τ1) → gx_W gx_tb gx_tb.length E s σ τ H locs → lv_has ls 7 [(0, .ref (E.2.2 + 17)), (1, .ref (E.2.2 + 159)), (2, .int x2), (3, .int x3)] → W P9 l e9 (gx_rm 0) s m9 av.toArray below meth C9 H locs 0 0 (gq_Qi below av s E r σ1 τ1) (F0 m9 4 ls [])) (σ : gI) (τ : gJ) (x2 : Int32) (x3 : Int32) (x4 : Int32) {r : Int32} {σ1 : gI} {τ1 : gJ} (h : B_X5_value_84 N rec_4 σ τ x2 x3 x4 = some (r, σ1, τ1)) {H : Heap} {locs : List Loc} {ls : Array Slot} (hw : gx_W gx_tb gx_tb.length E s σ τ H locs) (hl : lv_has ls 7 [(0, .ref (E.2.2 + 17)), (1, .ref (E.2.2 + 159)), (2, .int x2), (3, .int x3), (4, .int x4)]) : W P9 l e9 (gx_rm 0) s m9 av.toArray below meth C9 H locs 0 0 (gq_Qi below av s E r σ1 τ1) (F0 m9 84 ls []) := by
  have hx := S.1
  have hb := S.2.1
  unfold B_X5_value_84 at h
  refine lv_iload_n hx hb dX5_value_84 rfl (lv_at hl 2 rfl) ?_
  refine lv_iload hx hb dX5_value_85 (lv_at hl 4 rfl) ?_
  refine lv_bipush (v := 8) hx hb dX5_value_87 (by decide) ?_
  refine lv_icmp_ne (tgt := 96) hx hb dX5_value_89 (by decide) (fun c_1 => ?_) (fun c_1 => ?_)
  · rw [if_neg c_1] at h
    refine lv_iconst (v := 2) hx hb dX5_value_96 (by decide) ?_
    refine lv_icmp_ge (tgt := 102) hx hb dX5_value_97 (by decide) (fun c_2 => ?_) (fun c_2 => ?_)
    · rw [if_pos c_2] at h
      refine lv_iload_n hx hb dX5_value_102 rfl (lv_at hl 2 rfl) ?_
      refine lv_iload hx hb dX5_value_103 (lv_at hl 4 rfl) ?_
      refine lv_bipush (v := 8) hx hb dX5_value_105 (by decide) ?_
      refine lv_icmp_ne (tgt := 114) hx hb dX5_value_107 (by decide) (fun c_3 => ?_) (fun c_3 => ?_)
      · rw [if_neg c_3] at h
        refine lv_iconst (v := 1) hx hb dX5_value_114 (by decide) ?_
        exact b_X5_value_115 l S hr hlk hK N rec_4 hrec_4 σ τ x3 x4 1 x2 h hw (lv_sub hl [0, 1, 3, 4] rfl)
      · rw [if_pos c_3] at h
        refine lv_iconst (v := 0) hx hb dX5_value_110 (by decide) ?_
        refine lv_goto (tgt := 115) hx hb dX5_value_111 (by decide) ?_
        exact b_X5_value_115 l S hr hlk hK N rec_4 hrec_4 σ τ x3 x4 0 x2 h hw (lv_sub hl [0, 1, 3, 4] rfl)
    · rw [if_neg c_2] at h
      refine lv_iconst (v := 0) hx hb dX5_value_100 (by decide) ?_
      obtain ⟨rfl, rfl, rfl⟩ := sm_inj h
      exact gx_ri (post := gq_p 0 σ τ) (v := 0) S hr hlk hw rfl dX5_value_101 ⟨rfl, rfl, rfl⟩
  · rw [if_pos c_1] at h
    refine lv_iconst (v := 1) hx hb dX5_value_92 (by decide) ?_
    refine lv_goto (tgt := 97) hx hb dX5_value_93 (by decide) ?_
    refine lv_icmp_ge (tgt := 102) hx hb dX5_value_97 (by decide) (fun c_4 => ?_) (fun c_4 => ?_)
    · rw [if_pos c_4] at h
      refine lv_iload_n hx hb dX5_value_102 rfl (lv_at hl 2 rfl) ?_
      refine lv_iload hx hb dX5_value_103 (lv_at hl 4 rfl) ?_
      refine lv_bipush (v := 8) hx hb dX5_value_105 (by decide) ?_
      refine lv_icmp_ne (tgt := 114) hx hb dX5_value_107 (by decide) (fun c_5 => ?_) (fun c_5 => ?_)
      · rw [if_neg c_5] at h
        refine lv_iconst (v := 1) hx hb dX5_value_114 (by decide) ?_
        exact b_X5_value_115 l S hr hlk hK N rec_4 hrec_4 σ τ x3 x4 1 x2 h hw (lv_sub hl [0, 1, 3, 4] rfl)
      · rw [if_pos c_5] at h
        refine lv_iconst (v := 0) hx hb dX5_value_110 (by decide) ?_
        refine lv_goto (tgt := 115) hx hb dX5_value_111 (by decide) ?_
        exact b_X5_value_115 l S hr hlk hK N rec_4 hrec_4 σ τ x3 x4 0 x2 h hw (lv_sub hl [0, 1, 3, 4] rfl)
    · rw [if_neg c_4] at h
      refine lv_iconst (v := 0) hx hb dX5_value_100 (by decide) ?_
      obtain ⟨rfl, rfl, rfl⟩ := sm_inj h
      exact gx_ri (post := gq_p 0 σ τ) (v := 0) S hr hlk hw rfl dX5_value_101 ⟨rfl, rfl, rfl⟩
set_option maxHeartbeats 4000000 in
set_option maxRecDepth 100000 in
theorem k_X5_value_4 (l : Launch) (S : CallFix P9 m9 C9 cX5_value 7 s av.toArray gx_G RX5) (hr : meth.sig.returnType = (some .int)) (hlk : meth.locks = false) (hK : gx_K E s) (N : Nat) (rec_4 : gI → gJ → Int32 → Int32 → Option (Int32 × gI × gJ)) (hrec_4 : ∀ (σ : gI) (τ : gJ) (x2 : Int32) (x3 : Int32) (r : Int32) (σ1 : gI) (τ1 : gJ) (H : Heap) (locs : List Loc) (ls : Array Slot), rec_4 σ τ x2 x3 = some (r, σ1, τ1) → gx_W gx_tb gx_tb.length E s σ τ H locs → lv_has ls 7 [(0, .ref (E.2.2 + 17)), (1, .ref (E.2.2 + 159)), (2, .int x2), (3, .int x3)] → W P9 l e9 (gx_rm 0) s m9 av.toArray below meth C9 H locs 0 0 (gq_Qi below av s E r σ1 τ1) (F0 m9 4 ls [])) (σ : gI) (τ : gJ) (x2 : Int32) (x3 : Int32) {r : Int32} {σ1 : gI} {τ1 : gJ} (h : C_X5_value_4 N rec_4 σ τ x2 x3 = some (r, σ1, τ1)) {H : Heap} {locs : List Loc} {ls : Array Slot} (hw : gx_W gx_tb gx_tb.length E s σ τ H locs) (hl : lv_has ls 7 [(0, .ref (E.2.2 + 17)), (1, .ref (E.2.2 + 159)), (2, .int x2), (3, .int x3)]) : W P9 l e9 (gx_rm 0) s m9 av.toArray below meth C9 H locs 0 0 (gq_Qi below av s E r σ1 τ1) (F0 m9 4 ls []) := by
  have hx := S.1
  have hb := S.2.1
  unfold C_X5_value_4 at h
  refine lv_iload_n hx hb dX5_value_4 rfl (lv_at hl 3 rfl) ?_
  refine lv_aload_n hx hb dX5_value_5 rfl (lv_at hl 0 rfl) ?_
  refine gx_get S hK hw t_17 cl_6 3 (by decide) rfl mw_203 rfl dX5_value_6 ?_
  refine lv_icmp_ge (tgt := 339) hx hb dX5_value_9 (by decide) (fun c_1 => ?_) (fun c_1 => ?_)
  · rw [if_pos c_1] at h
    refine lv_aload_n hx hb dX5_value_339 rfl (lv_at hl 0 rfl) ?_
    refine gx_getr (j := 19) S hK hw t_17 cl_6 1 (by decide) rfl mw_201 rfl dX5_value_340 ?_
    refine lv_iconst (v := 0) hx hb dX5_value_343 (by decide) ?_
    refine gx_iald S hK hw t_19 0 rfl (gx_in rfl (by decide) (by decide)) dX5_value_344 ?_
    obtain ⟨rfl, rfl, rfl⟩ := sm_inj h
    exact gx_ri (post := gq_p (σ 19 0) σ τ) (v := σ 19 0) S hr hlk hw rfl dX5_value_345 ⟨rfl, rfl, rfl⟩
  · rw [if_neg c_1] at h
    refine lv_iload_n hx hb dX5_value_12 rfl (lv_at hl 3 rfl) ?_
    refine lv_bipush (v := 40) hx hb dX5_value_13 (by decide) ?_
    refine lv_icmp_ge (tgt := 339) hx hb dX5_value_15 (by decide) (fun c_2 => ?_) (fun c_2 => ?_)
    · rw [if_pos c_2] at h
      refine lv_aload_n hx hb dX5_value_339 rfl (lv_at hl 0 rfl) ?_
      refine gx_getr (j := 19) S hK hw t_17 cl_6 1 (by decide) rfl mw_201 rfl dX5_value_340 ?_
      refine lv_iconst (v := 0) hx hb dX5_value_343 (by decide) ?_
      refine gx_iald S hK hw t_19 0 rfl (gx_in rfl (by decide) (by decide)) dX5_value_344 ?_
      obtain ⟨rfl, rfl, rfl⟩ := sm_inj h
      exact gx_ri (post := gq_p (σ 19 0) σ τ) (v := σ 19 0) S hr hlk hw rfl dX5_value_345 ⟨rfl, rfl, rfl⟩
    · rw [if_neg c_2] at h
      refine lv_iload_n hx hb dX5_value_18 rfl (lv_at hl 2 rfl) ?_
      refine lv_bipush (v := 40) hx hb dX5_value_19 (by decide) ?_
      refine lv_icmp_ge (tgt := 339) hx hb dX5_value_21 (by decide) (fun c_3 => ?_) (fun c_3 => ?_)
      · rw [if_pos c_3] at h
        refine lv_aload_n hx hb dX5_value_339 rfl (lv_at hl 0 rfl) ?_
        refine gx_getr (j := 19) S hK hw t_17 cl_6 1 (by decide) rfl mw_201 rfl dX5_value_340 ?_
        refine lv_iconst (v := 0) hx hb dX5_value_343 (by decide) ?_
        refine gx_iald S hK hw t_19 0 rfl (gx_in rfl (by decide) (by decide)) dX5_value_344 ?_
        obtain ⟨rfl, rfl, rfl⟩ := sm_inj h
        exact gx_ri (post := gq_p (σ 19 0) σ τ) (v := σ 19 0) S hr hlk hw rfl dX5_value_345 ⟨rfl, rfl, rfl⟩
      · rw [if_neg c_3] at h
        refine lv_aload_n hx hb dX5_value_24 rfl (lv_at hl 0 rfl) ?_
        refine gx_getr (j := 18) S hK hw t_17 cl_6 0 (by decide) rfl mw_200 rfl dX5_value_25 ?_
        refine lv_iload_n hx hb dX5_value_28 rfl (lv_at hl 3 rfl) ?_
        obtain ⟨j_4, hj_4, hi_4, h⟩ := ck_some h
        refine gx_iald S hK hw t_18 j_4 hj_4 hi_4 dX5_value_29 ?_
        refine lv_istore (lv' := [(4, .int (σ 18 j_4)), (0, .ref (E.2.2 + 17)), (1, .ref (E.2.2 + 159)), (2, .int x2), (3, .int x3)]) hx hb dX5_value_30 hl (by decide) rfl (fun ls hl => ?_)
        obtain ⟨v_5, e_5, h⟩ := nm_some h
        have hl : lv_has ls 7 [(4, .int v_5), (0, .ref (E.2.2 + 17)), (1, .ref (E.2.2 + 159)), (2, .int x2), (3, .int x3)] := by rw [e_5]; exact hl
        refine lv_iload hx hb dX5_value_32 (lv_at hl 0 rfl) ?_
        refine lv_bipush (v := 32) hx hb dX5_value_34 (by decide) ?_
        refine lv_icmp_lt (tgt := 56) hx hb dX5_value_36 (by decide) (fun c_6 => ?_) (fun c_6 => ?_)
        · rw [if_pos c_6] at h
          refine lv_iload hx hb dX5_value_56 (lv_at hl 0 rfl) ?_
          refine lv_if_lt (tgt := 84) hx hb dX5_value_58 (by decide) (fun c_7 => ?_) (fun c_7 => ?_)
          · rw [if_pos c_7] at h
            exact b_X5_value_84 l S hr hlk hK N rec_4 hrec_4 σ τ x2 x3 v_5 h hw (lv_sub hl [1, 2, 3, 4, 0] rfl)
          · rw [if_neg c_7] at h
            refine lv_iload hx hb dX5_value_61 (lv_at hl 0 rfl) ?_
            refine lv_aload_n hx hb dX5_value_63 rfl (lv_at hl 2 rfl) ?_
            refine gx_alen (v := 8) S hK hw t_159 rfl dX5_value_64 ?_
            refine lv_icmp_ge (tgt := 84) hx hb dX5_value_65 (by decide) (fun c_8 => ?_) (fun c_8 => ?_)
            · rw [if_pos c_8] at h
              exact b_X5_value_84 l S hr hlk hK N rec_4 hrec_4 σ τ x2 x3 v_5 h hw (lv_sub hl [1, 2, 3, 4, 0] rfl)
            · rw [if_neg c_8] at h
              refine lv_aload_n hx hb dX5_value_68 rfl (lv_at hl 1 rfl) ?_
              refine gx_getr (j := 19) S hK hw t_17 cl_6 1 (by decide) rfl mw_201 rfl dX5_value_69 ?_
              refine lv_iload_n hx hb dX5_value_72 rfl (lv_at hl 3 rfl) ?_
              refine lv_iinc (v := x2 + 1) (lv' := [(2, .int (x2 + 1)), (4, .int v_5), (0, .ref (E.2.2 + 17)), (1, .ref (E.2.2 + 159)), (3, .int x3)]) hx hb dX5_value_73 hl (k := 3) rfl rfl (by decide) rfl (fun ls hl => ?_)
              obtain ⟨v_9, e_9, h⟩ := nm_some h
              have hl : lv_has ls 7 [(2, .int v_9), (4, .int v_5), (0, .ref (E.2.2 + 17)), (1, .ref (E.2.2 + 159)), (3, .int x3)] := by rw [e_9]; exact hl
              refine lv_aload_n hx hb dX5_value_76 rfl (lv_at hl 3 rfl) ?_
              refine lv_iload hx hb dX5_value_77 (lv_at hl 1 rfl) ?_
              obtain ⟨j_10, hj_10, hi_10, h⟩ := ck_some h
              refine gx_iald S hK hw t_159 j_10 hj_10 hi_10 dX5_value_79 ?_
              obtain ⟨j_11, hj_11, hi_11, h⟩ := ck_some h
              refine gx_iast S hK gx_ok hw t_19 j_11 hj_11 hi_11 dX5_value_80 (fun H locs hw => ?_)
              obtain ⟨σ_12, e_12, h⟩ := nm_some h
              rw [← e_12] at hw
              refine lv_goto (tgt := 333) hx hb dX5_value_81 (by decide) ?_
              refine lv_iinc (v := x3 + 1) (lv' := [(3, .int (x3 + 1)), (2, .int v_9), (4, .int v_5), (0, .ref (E.2.2 + 17)), (1, .ref (E.2.2 + 159))]) hx hb dX5_value_333 hl (k := 4) rfl rfl (by decide) rfl (fun ls hl => ?_)
              obtain ⟨v_13, e_13, h⟩ := nm_some h
              have hl : lv_has ls 7 [(3, .int v_13), (2, .int v_9), (4, .int v_5), (0, .ref (E.2.2 + 17)), (1, .ref (E.2.2 + 159))] := by rw [e_13]; exact hl
              refine lv_goto (tgt := 4) hx hb dX5_value_336 (by decide) ?_
              exact hrec_4 σ_12 τ v_9 v_13 _ _ _ _ _ _ h hw (lv_sub hl [3, 4, 1, 0] rfl)
        · rw [if_neg c_6] at h
          refine lv_aload_n hx hb dX5_value_39 rfl (lv_at hl 1 rfl) ?_
          refine gx_getr (j := 19) S hK hw t_17 cl_6 1 (by decide) rfl mw_201 rfl dX5_value_40 ?_
          refine lv_iload_n hx hb dX5_value_43 rfl (lv_at hl 3 rfl) ?_
          refine lv_iinc (v := x2 + 1) (lv' := [(2, .int (x2 + 1)), (4, .int v_5), (0, .ref (E.2.2 + 17)), (1, .ref (E.2.2 + 159)), (3, .int x3)]) hx hb dX5_value_44 hl (k := 3) rfl rfl (by decide) rfl (fun ls hl => ?_)
          obtain ⟨v_14, e_14, h⟩ := nm_some h
          have hl : lv_has ls 7 [(2, .int v_14), (4, .int v_5), (0, .ref (E.2.2 + 17)), (1, .ref (E.2.2 + 159)), (3, .int x3)] := by rw [e_14]; exact hl
          refine lv_iload hx hb dX5_value_47 (lv_at hl 1 rfl) ?_
          refine lv_bipush (v := 32) hx hb dX5_value_49 (by decide) ?_
          refine lv_isub hx hb dX5_value_51 ?_
          obtain ⟨j_15, hj_15, hi_15, h⟩ := ck_some h
          refine gx_iast S hK gx_ok hw t_19 j_15 hj_15 hi_15 dX5_value_52 (fun H locs hw => ?_)
          obtain ⟨σ_16, e_16, h⟩ := nm_some h
          rw [← e_16] at hw
          refine lv_goto (tgt := 333) hx hb dX5_value_53 (by decide) ?_
          refine lv_iinc (v := x3 + 1) (lv' := [(3, .int (x3 + 1)), (2, .int v_14), (4, .int v_5), (0, .ref (E.2.2 + 17)), (1, .ref (E.2.2 + 159))]) hx hb dX5_value_333 hl (k := 4) rfl rfl (by decide) rfl (fun ls hl => ?_)
          obtain ⟨v_17, e_17, h⟩ := nm_some h
          have hl : lv_has ls 7 [(3, .int v_17), (2, .int v_14), (4, .int v_5), (0, .ref (E.2.2 + 17)), (1, .ref (E.2.2 + 159))] := by rw [e_17]; exact hl
          refine lv_goto (tgt := 4) hx hb dX5_value_336 (by decide) ?_
          exact hrec_4 σ_16 τ v_14 v_17 _ _ _ _ _ _ h hw (lv_sub hl [3, 4, 1, 0] rfl)
set_option maxHeartbeats 4000000 in
set_option maxRecDepth 100000 in
theorem h_X5_value_4 (l : Launch) (S : CallFix P9 m9 C9 cX5_value 7 s av.toArray gx_G RX5) (hr : meth.sig.returnType = (some .int)) (hlk : meth.locks = false) (hK : gx_K E s) (N : Nat) : ∀ (n : Nat) (σ : gI) (τ : gJ) (x2 : Int32) (x3 : Int32) (r : Int32) (σ1 : gI) (τ1 : gJ), H_X5_value_4 N n σ τ x2 x3 = some (r, σ1, τ1) → ∀ (H : Heap) (locs : List Loc) (ls : Array Slot), gx_W gx_tb gx_tb.length E s σ τ H locs → lv_has ls 7 [(0, .ref (E.2.2 + 17)), (1, .ref (E.2.2 + 159)), (2, .int x2), (3, .int x3)] → W P9 l e9 (gx_rm 0) s m9 av.toArray below meth C9 H locs 0 0 (gq_Qi below av s E r σ1 τ1) (F0 m9 4 ls []) := by
  intro n
  induction n with
  | zero => intro σ τ x2 x3 r σ1 τ1 h; cases h
  | succ n ih =>
    intro σ τ x2 x3 r σ1 τ1 h H locs ls hw hl
    exact k_X5_value_4 l S hr hlk hK N (H_X5_value_4 N n) (fun σ τ x2 x3 r σ1 τ1 H locs ls h hw hl => ih σ τ x2 x3 r σ1 τ1 h H locs ls hw hl) σ τ x2 x3 h hw hl
set_option maxHeartbeats 4000000 in
set_option maxRecDepth 100000 in
theorem b_X5_value_0 (l : Launch) (S : CallFix P9 m9 C9 cX5_value 7 s av.toArray gx_G RX5) (hr : meth.sig.returnType = (some .int)) (hlk : meth.locks = false) (hK : gx_K E s) (N : Nat) (σ : gI) (τ : gJ) {r : Int32} {σ1 : gI} {τ1 : gJ} (h : B_X5_value_0 N σ τ = some (r, σ1, τ1)) {H : Heap} {locs : List Loc} {ls : Array Slot} (hw : gx_W gx_tb gx_tb.length E s σ τ H locs) (hl : lv_has ls 7 [(0, .ref (E.2.2 + 17)), (1, .ref (E.2.2 + 159))]) : W P9 l e9 (gx_rm 0) s m9 av.toArray below meth C9 H locs 0 0 (gq_Qi below av s E r σ1 τ1) (F0 m9 0 ls []) := by
  have hx := S.1
  have hb := S.2.1
  unfold B_X5_value_0 at h
  refine lv_iconst (v := 0) hx hb dX5_value_0 (by decide) ?_
  refine lv_istore_n (lv' := [(2, .int 0), (0, .ref (E.2.2 + 17)), (1, .ref (E.2.2 + 159))]) hx hb dX5_value_1 rfl hl (by decide) rfl (fun ls hl => ?_)
  refine lv_iconst (v := 0) hx hb dX5_value_2 (by decide) ?_
  refine lv_istore_n (lv' := [(3, .int 0), (2, .int 0), (0, .ref (E.2.2 + 17)), (1, .ref (E.2.2 + 159))]) hx hb dX5_value_3 rfl hl (by decide) rfl (fun ls hl => ?_)
  exact h_X5_value_4 l S hr hlk hK N N σ τ 0 0 _ _ _ h _ _ _ hw (lv_sub hl [2, 3, 1, 0] rfl)
set_option maxHeartbeats 4000000 in
set_option maxRecDepth 100000 in
theorem c_X5_value (l : Launch) {E : gE} (N : Nat) (σ : gI) (τ : gJ) {r : Int32} {σ1 : gI} {τ1 : gJ} (h : B_X5_value_0 N σ τ = some (r, σ1, τ1)) : gx_Mi l yX5_value cX5_value 7 (some .int) 0 gx_tb E σ τ [.ref (E.2.2 + 17), .ref (E.2.2 + 159)] (gq_p r σ1 τ1) := by
  refine gx_bi (by decide +kernel) (Nat.le_of_ble_eq_true rfl) ?_
  intro P9 e9 s m9 below meth C9 S hr hlk hK hw ls hl
  have hl : lv_has ls 7 [(0, .ref (E.2.2 + 17)), (1, .ref (E.2.2 + 159))] := hl
  exact b_X5_value_0 l S hr hlk hK N σ τ h hw hl
/-! X1_wayOf -/
def B_X1_wayOf_143 (N : Nat) (d : Nat) (σ : gI) (τ : gJ) (x3 : Int32) (x5 : Int32) (x6 : Int32) (y0 : Int32) : Option (Int32 × gI × gJ) := nm (up2 σ 159 6 y0) fun σ_1 => nm (up2 σ_1 159 7 x3) fun σ_2 => bd (B_X5_value_0 N σ_2 τ) fun r_3 σ_3 τ_3 => if r_3 = 0 then (some (x5, σ_3, τ_3)) else (some (x6, σ_3, τ_3))
def B_X1_wayOf_52 (N : Nat) (d : Nat) (σ : gI) (τ : gJ) (x2 : Int32) (x3 : Int32) (x4 : Int32) (x5 : Int32) (x6 : Int32) : Option (Int32 × gI × gJ) := nm (up2 σ 159 0 (((σ d 7) >>> (x3 &&& 31)) &&& 1)) fun σ_1 => nm (up2 σ_1 159 1 (σ_1 d 8)) fun σ_2 => nm (up2 σ_2 159 2 x4) fun σ_3 => nm (up2 σ_3 159 3 x2) fun σ_4 => bd (B_X6_paperOf_0 N d σ_4 τ x2) fun r_5 σ_5 τ_5 => nm (up2 σ_5 159 4 r_5) fun σ_6 => bd (B_X6_purseOf_0 N d σ_6 τ_5 x2) fun r_7 σ_7 τ_7 => nm (up2 σ_7 159 5 r_7) fun σ_8 => if σ_8 17 10 = 0 then (B_X1_wayOf_143 N d σ_8 τ_7 x3 x5 x6 0) else (bd (B_X6_at_0 N d σ_8 τ_7 x3) fun r_10 σ_10 τ_10 => bd (B_J6_bitCount_0f7a4_0 N σ_10 τ_10 r_10) fun r_11 σ_11 τ_11 => B_X1_wayOf_143 N d σ_11 τ_11 x3 x5 x6 (r_11 - 1))
def B_X1_wayOf_0 (N : Nat) (d : Nat) (σ : gI) (τ : gJ) (x2 : Int32) (x3 : Int32) (x4 : Int32) : Option (Int32 × gI × gJ) := bd (B_X8_nextOf_0 N σ τ x3) fun r_1 σ_1 τ_1 => bd (B_X8_secondOf_0 N σ_1 τ_1 x3) fun r_2 σ_2 τ_2 => if r_1 = r_2 then (some (r_1, σ_2, τ_2)) else (if σ_2 17 9 = 0 then (B_X1_wayOf_52 N d σ_2 τ_2 x2 x3 x4 r_1 r_2) else (nm (up2 σ_2 158 4 ((σ_2 158 4) ||| (1 <<< (x3 &&& 31)))) fun σ_5 => B_X1_wayOf_52 N d σ_5 τ_2 x2 x3 x4 r_1 r_2))
set_option maxHeartbeats 4000000 in
set_option maxRecDepth 100000 in
theorem b_X1_wayOf_143 (l : Launch) (S : CallFix P9 m9 C9 cX1_wayOf 7 s av.toArray gx_G RX1) (hr : meth.sig.returnType = (some .int)) (hlk : meth.locks = false) (hK : gx_K E s) (N : Nat) (d : Nat) (td : gx_isS d) (σ : gI) (τ : gJ) (x3 : Int32) (x5 : Int32) (x6 : Int32) (y0 : Int32) {r : Int32} {σ1 : gI} {τ1 : gJ} (h : B_X1_wayOf_143 N d σ τ x3 x5 x6 y0 = some (r, σ1, τ1)) {H : Heap} {locs : List Loc} {ls : Array Slot} (hw : gx_W gx_tb gx_tb.length E s σ τ H locs) (hl : lv_has ls 7 [(0, .ref (E.2.2 + 158)), (3, .int x3), (5, .int x5), (6, .int x6)]) : W P9 l e9 (gx_rm 1) s m9 av.toArray below meth C9 H locs 0 0 (gq_Qi below av s E r σ1 τ1) (F0 m9 143 ls [.int y0, .int 6, .ref (E.2.2 + 159)]) := by
  have hx := S.1
  have hb := S.2.1
  unfold B_X1_wayOf_143 at h
  refine gx_iast S hK gx_ok hw t_159 6 rfl (gx_in rfl (by decide) (by decide)) dX1_wayOf_143 (fun H locs hw => ?_)
  obtain ⟨σ_1, e_1, h⟩ := nm_some h
  rw [← e_1] at hw
  refine lv_aload_n hx hb dX1_wayOf_144 rfl (lv_at hl 0 rfl) ?_
  refine gx_getr (j := 159) S hK hw t_158 cl_2 3 (by decide) rfl mw_374 rfl dX1_wayOf_145 ?_
  refine lv_bipush (v := 7) hx hb dX1_wayOf_148 (by decide) ?_
  refine lv_iload_n hx hb dX1_wayOf_150 rfl (lv_at hl 1 rfl) ?_
  refine gx_iast S hK gx_ok hw t_159 7 rfl (gx_in rfl (by decide) (by decide)) dX1_wayOf_151 (fun H locs hw => ?_)
  obtain ⟨σ_2, e_2, h⟩ := nm_some h
  rw [← e_2] at hw
  refine lv_aload_n hx hb dX1_wayOf_152 rfl (lv_at hl 0 rfl) ?_
  refine gx_getr (j := 17) S hK hw t_158 cl_2 2 (by decide) rfl mw_373 rfl dX1_wayOf_153 ?_
  refine lv_aload_n hx hb dX1_wayOf_156 rfl (lv_at hl 0 rfl) ?_
  refine gx_getr (j := 159) S hK hw t_158 cl_2 3 (by decide) rfl mw_374 rfl dX1_wayOf_157 ?_
  obtain ⟨r_3, σ_3, τ_3, q_3, h⟩ := bd_some h
  refine gx_cVi (As := [.ref (E.2.2 + 159)]) (rest := []) S hK gx_ok hw (c_X5_value l (E := E) N σ_2 τ q_3) cw_X1_129 t_17 cl_6 ⟨Nat.le_of_ble_eq_true rfl, Nat.le_of_ble_eq_true rfl⟩ rfl hl.1 rfl (Nat.le_of_ble_eq_true rfl) ⟨Nat.le_of_ble_eq_true rfl, Nat.le_of_ble_eq_true rfl⟩ dX1_wayOf_160 (fun r9 σ9 τ9 H locs hp hw => ?_)
  obtain ⟨rfl, rfl, rfl⟩ := hp
  refine lv_if_eq (tgt := 171) hx hb dX1_wayOf_163 (by decide) (fun c_4 => ?_) (fun c_4 => ?_)
  · rw [if_pos c_4] at h
    refine lv_iload hx hb dX1_wayOf_171 (lv_at hl 2 rfl) ?_
    obtain ⟨rfl, rfl, rfl⟩ := sm_inj h
    exact gx_ri (post := gq_p x5 σ_3 τ_3) (v := x5) S hr hlk hw rfl dX1_wayOf_173 ⟨rfl, rfl, rfl⟩
  · rw [if_neg c_4] at h
    refine lv_iload hx hb dX1_wayOf_166 (lv_at hl 3 rfl) ?_
    refine lv_goto (tgt := 173) hx hb dX1_wayOf_168 (by decide) ?_
    obtain ⟨rfl, rfl, rfl⟩ := sm_inj h
    exact gx_ri (post := gq_p x6 σ_3 τ_3) (v := x6) S hr hlk hw rfl dX1_wayOf_173 ⟨rfl, rfl, rfl⟩
set_option maxHeartbeats 4000000 in
set_option maxRecDepth 100000 in
theorem b_X1_wayOf_52 (l : Launch) (S : CallFix P9 m9 C9 cX1_wayOf 7 s av.toArray gx_G RX1) (hr : meth.sig.returnType = (some .int)) (hlk : meth.locks = false) (hK : gx_K E s) (N : Nat) (d : Nat) (td : gx_isS d) (σ : gI) (τ : gJ) (x2 : Int32) (x3 : Int32) (x4 : Int32) (x5 : Int32) (x6 : Int32) {r : Int32} {σ1 : gI} {τ1 : gJ} (h : B_X1_wayOf_52 N d σ τ x2 x3 x4 x5 x6 = some (r, σ1, τ1)) {H : Heap} {locs : List Loc} {ls : Array Slot} (hw : gx_W gx_tb gx_tb.length E s σ τ H locs) (hl : lv_has ls 7 [(0, .ref (E.2.2 + 158)), (1, .ref (E.2.2 + d)), (2, .int x2), (3, .int x3), (4, .int x4), (5, .int x5), (6, .int x6)]) : W P9 l e9 (gx_rm 1) s m9 av.toArray below meth C9 H locs 0 0 (gq_Qi below av s E r σ1 τ1) (F0 m9 52 ls []) := by
  have hx := S.1
  have hb := S.2.1
  unfold B_X1_wayOf_52 at h
  refine lv_aload_n hx hb dX1_wayOf_52 rfl (lv_at hl 0 rfl) ?_
  refine gx_getr (j := 159) S hK hw t_158 cl_2 3 (by decide) rfl mw_374 rfl dX1_wayOf_53 ?_
  refine lv_iconst (v := 0) hx hb dX1_wayOf_56 (by decide) ?_
  refine lv_aload_n hx hb dX1_wayOf_57 rfl (lv_at hl 1 rfl) ?_
  refine gx_get S hK hw td.1 cl_7 7 (by decide) rfl mw_275 rfl dX1_wayOf_58 ?_
  refine lv_iload_n hx hb dX1_wayOf_61 rfl (lv_at hl 3 rfl) ?_
  refine lv_ishr hx hb dX1_wayOf_62 ?_
  refine lv_iconst (v := 1) hx hb dX1_wayOf_63 (by decide) ?_
  refine lv_iand hx hb dX1_wayOf_64 ?_
  refine gx_iast S hK gx_ok hw t_159 0 rfl (gx_in rfl (by decide) (by decide)) dX1_wayOf_65 (fun H locs hw => ?_)
  obtain ⟨σ_1, e_1, h⟩ := nm_some h
  rw [← e_1] at hw
  refine lv_aload_n hx hb dX1_wayOf_66 rfl (lv_at hl 0 rfl) ?_
  refine gx_getr (j := 159) S hK hw t_158 cl_2 3 (by decide) rfl mw_374 rfl dX1_wayOf_67 ?_
  refine lv_iconst (v := 1) hx hb dX1_wayOf_70 (by decide) ?_
  refine lv_aload_n hx hb dX1_wayOf_71 rfl (lv_at hl 1 rfl) ?_
  refine gx_get S hK hw td.1 cl_7 8 (by decide) rfl mw_279 rfl dX1_wayOf_72 ?_
  refine gx_iast S hK gx_ok hw t_159 1 rfl (gx_in rfl (by decide) (by decide)) dX1_wayOf_75 (fun H locs hw => ?_)
  obtain ⟨σ_2, e_2, h⟩ := nm_some h
  rw [← e_2] at hw
  refine lv_aload_n hx hb dX1_wayOf_76 rfl (lv_at hl 0 rfl) ?_
  refine gx_getr (j := 159) S hK hw t_158 cl_2 3 (by decide) rfl mw_374 rfl dX1_wayOf_77 ?_
  refine lv_iconst (v := 2) hx hb dX1_wayOf_80 (by decide) ?_
  refine lv_iload hx hb dX1_wayOf_81 (lv_at hl 4 rfl) ?_
  refine gx_iast S hK gx_ok hw t_159 2 rfl (gx_in rfl (by decide) (by decide)) dX1_wayOf_83 (fun H locs hw => ?_)
  obtain ⟨σ_3, e_3, h⟩ := nm_some h
  rw [← e_3] at hw
  refine lv_aload_n hx hb dX1_wayOf_84 rfl (lv_at hl 0 rfl) ?_
  refine gx_getr (j := 159) S hK hw t_158 cl_2 3 (by decide) rfl mw_374 rfl dX1_wayOf_85 ?_
  refine lv_iconst (v := 3) hx hb dX1_wayOf_88 (by decide) ?_
  refine lv_iload_n hx hb dX1_wayOf_89 rfl (lv_at hl 2 rfl) ?_
  refine gx_iast S hK gx_ok hw t_159 3 rfl (gx_in rfl (by decide) (by decide)) dX1_wayOf_90 (fun H locs hw => ?_)
  obtain ⟨σ_4, e_4, h⟩ := nm_some h
  rw [← e_4] at hw
  refine lv_aload_n hx hb dX1_wayOf_91 rfl (lv_at hl 0 rfl) ?_
  refine gx_getr (j := 159) S hK hw t_158 cl_2 3 (by decide) rfl mw_374 rfl dX1_wayOf_92 ?_
  refine lv_iconst (v := 4) hx hb dX1_wayOf_95 (by decide) ?_
  refine lv_aload_n hx hb dX1_wayOf_96 rfl (lv_at hl 1 rfl) ?_
  refine lv_iload_n hx hb dX1_wayOf_97 rfl (lv_at hl 2 rfl) ?_
  obtain ⟨r_5, σ_5, τ_5, q_5, h⟩ := bd_some h
  refine gx_cVi (As := [.int x2]) (rest := [.int 4, .ref (E.2.2 + 159)]) S hK gx_ok hw (c_X6_paperOf l (E := E) N d td σ_4 τ x2 q_5) cw_X1_115 td.1 cl_7 ⟨Nat.le_of_ble_eq_true rfl, Nat.le_of_ble_eq_true rfl⟩ rfl hl.1 rfl (Nat.le_of_ble_eq_true rfl) ⟨Nat.le_of_ble_eq_true rfl, Nat.le_of_ble_eq_true rfl⟩ dX1_wayOf_98 (fun r9 σ9 τ9 H locs hp hw => ?_)
  obtain ⟨rfl, rfl, rfl⟩ := hp
  refine gx_iast S hK gx_ok hw t_159 4 rfl (gx_in rfl (by decide) (by decide)) dX1_wayOf_101 (fun H locs hw => ?_)
  obtain ⟨σ_6, e_6, h⟩ := nm_some h
  rw [← e_6] at hw
  refine lv_aload_n hx hb dX1_wayOf_102 rfl (lv_at hl 0 rfl) ?_
  refine gx_getr (j := 159) S hK hw t_158 cl_2 3 (by decide) rfl mw_374 rfl dX1_wayOf_103 ?_
  refine lv_iconst (v := 5) hx hb dX1_wayOf_106 (by decide) ?_
  refine lv_aload_n hx hb dX1_wayOf_107 rfl (lv_at hl 1 rfl) ?_
  refine lv_iload_n hx hb dX1_wayOf_108 rfl (lv_at hl 2 rfl) ?_
  obtain ⟨r_7, σ_7, τ_7, q_7, h⟩ := bd_some h
  refine gx_cVi (As := [.int x2]) (rest := [.int 5, .ref (E.2.2 + 159)]) S hK gx_ok hw (c_X6_purseOf l (E := E) N d td σ_6 τ_5 x2 q_7) cw_X1_118 td.1 cl_7 ⟨Nat.le_of_ble_eq_true rfl, Nat.le_of_ble_eq_true rfl⟩ rfl hl.1 rfl (Nat.le_of_ble_eq_true rfl) ⟨Nat.le_of_ble_eq_true rfl, Nat.le_of_ble_eq_true rfl⟩ dX1_wayOf_109 (fun r9 σ9 τ9 H locs hp hw => ?_)
  obtain ⟨rfl, rfl, rfl⟩ := hp
  refine gx_iast S hK gx_ok hw t_159 5 rfl (gx_in rfl (by decide) (by decide)) dX1_wayOf_112 (fun H locs hw => ?_)
  obtain ⟨σ_8, e_8, h⟩ := nm_some h
  rw [← e_8] at hw
  refine lv_aload_n hx hb dX1_wayOf_113 rfl (lv_at hl 0 rfl) ?_
  refine gx_getr (j := 159) S hK hw t_158 cl_2 3 (by decide) rfl mw_374 rfl dX1_wayOf_114 ?_
  refine lv_bipush (v := 6) hx hb dX1_wayOf_117 (by decide) ?_
  refine lv_aload_n hx hb dX1_wayOf_119 rfl (lv_at hl 0 rfl) ?_
  refine gx_getr (j := 17) S hK hw t_158 cl_2 2 (by decide) rfl mw_373 rfl dX1_wayOf_120 ?_
  refine gx_get S hK hw t_17 cl_6 10 (by decide) rfl mw_211 rfl dX1_wayOf_123 ?_
  refine lv_if_eq (tgt := 142) hx hb dX1_wayOf_126 (by decide) (fun c_9 => ?_) (fun c_9 => ?_)
  · rw [if_pos c_9] at h
    refine lv_iconst (v := 0) hx hb dX1_wayOf_142 (by decide) ?_
    exact b_X1_wayOf_143 l S hr hlk hK N d td σ_8 τ_7 x3 x5 x6 0 h hw (lv_sub hl [0, 3, 5, 6] rfl)
  · rw [if_neg c_9] at h
    refine lv_aload_n hx hb dX1_wayOf_129 rfl (lv_at hl 1 rfl) ?_
    refine lv_iload_n hx hb dX1_wayOf_130 rfl (lv_at hl 3 rfl) ?_
    obtain ⟨r_10, σ_10, τ_10, q_10, h⟩ := bd_some h
    refine gx_cVi (As := [.int x3]) (rest := [.int 6, .ref (E.2.2 + 159)]) S hK gx_ok hw (c_X6_at l (E := E) N d td σ_8 τ_7 x3 q_10) cw_X1_121 td.1 cl_7 ⟨Nat.le_of_ble_eq_true rfl, Nat.le_of_ble_eq_true rfl⟩ rfl hl.1 rfl (Nat.le_of_ble_eq_true rfl) ⟨Nat.le_of_ble_eq_true rfl, Nat.le_of_ble_eq_true rfl⟩ dX1_wayOf_131 (fun r9 σ9 τ9 H locs hp hw => ?_)
    obtain ⟨rfl, rfl, rfl⟩ := hp
    obtain ⟨r_11, σ_11, τ_11, q_11, h⟩ := bd_some h
    refine gx_cSi (As := [.int r_10]) (rest := [.int 6, .ref (E.2.2 + 159)]) S hK gx_ok hw (c_J6_bitCount_0f7a4 l (E := E) N σ_10 τ_10 r_10 q_11) cw_X1_124 ⟨Nat.le_of_ble_eq_true rfl, Nat.le_of_ble_eq_true rfl⟩ rfl hl.1 rfl (Nat.le_of_ble_eq_true rfl) ⟨Nat.le_of_ble_eq_true rfl, Nat.le_of_ble_eq_true rfl⟩ dX1_wayOf_134 (fun r9 σ9 τ9 H locs hp hw => ?_)
    obtain ⟨rfl, rfl, rfl⟩ := hp
    refine lv_iconst (v := 1) hx hb dX1_wayOf_137 (by decide) ?_
    refine lv_isub hx hb dX1_wayOf_138 ?_
    refine lv_goto (tgt := 143) hx hb dX1_wayOf_139 (by decide) ?_
    exact b_X1_wayOf_143 l S hr hlk hK N d td σ_11 τ_11 x3 x5 x6 (r_11 - 1) h hw (lv_sub hl [0, 3, 5, 6] rfl)
set_option maxHeartbeats 4000000 in
set_option maxRecDepth 100000 in
theorem b_X1_wayOf_0 (l : Launch) (S : CallFix P9 m9 C9 cX1_wayOf 7 s av.toArray gx_G RX1) (hr : meth.sig.returnType = (some .int)) (hlk : meth.locks = false) (hK : gx_K E s) (N : Nat) (d : Nat) (td : gx_isS d) (σ : gI) (τ : gJ) (x2 : Int32) (x3 : Int32) (x4 : Int32) {r : Int32} {σ1 : gI} {τ1 : gJ} (h : B_X1_wayOf_0 N d σ τ x2 x3 x4 = some (r, σ1, τ1)) {H : Heap} {locs : List Loc} {ls : Array Slot} (hw : gx_W gx_tb gx_tb.length E s σ τ H locs) (hl : lv_has ls 7 [(0, .ref (E.2.2 + 158)), (1, .ref (E.2.2 + d)), (2, .int x2), (3, .int x3), (4, .int x4)]) : W P9 l e9 (gx_rm 1) s m9 av.toArray below meth C9 H locs 0 0 (gq_Qi below av s E r σ1 τ1) (F0 m9 0 ls []) := by
  have hx := S.1
  have hb := S.2.1
  unfold B_X1_wayOf_0 at h
  refine lv_aload_n hx hb dX1_wayOf_0 rfl (lv_at hl 0 rfl) ?_
  refine gx_getr (j := 3) S hK hw t_158 cl_2 0 (by decide) rfl mw_371 rfl dX1_wayOf_1 ?_
  refine lv_iload_n hx hb dX1_wayOf_4 rfl (lv_at hl 3 rfl) ?_
  obtain ⟨r_1, σ_1, τ_1, q_1, h⟩ := bd_some h
  refine gx_cVi (As := [.int x3]) (rest := []) S hK gx_ok hw (c_X8_nextOf l (E := E) N σ τ x3 q_1) cw_X1_79 t_3 cl_9 ⟨Nat.le_of_ble_eq_true rfl, Nat.le_of_ble_eq_true rfl⟩ rfl hl.1 rfl (Nat.le_of_ble_eq_true rfl) ⟨Nat.le_of_ble_eq_true rfl, Nat.le_of_ble_eq_true rfl⟩ dX1_wayOf_5 (fun r9 σ9 τ9 H locs hp hw => ?_)
  obtain ⟨rfl, rfl, rfl⟩ := hp
  refine lv_istore (lv' := [(5, .int r_1), (0, .ref (E.2.2 + 158)), (1, .ref (E.2.2 + d)), (2, .int x2), (3, .int x3), (4, .int x4)]) hx hb dX1_wayOf_8 hl (by decide) rfl (fun ls hl => ?_)
  refine lv_aload_n hx hb dX1_wayOf_10 rfl (lv_at hl 1 rfl) ?_
  refine gx_getr (j := 3) S hK hw t_158 cl_2 0 (by decide) rfl mw_371 rfl dX1_wayOf_11 ?_
  refine lv_iload_n hx hb dX1_wayOf_14 rfl (lv_at hl 4 rfl) ?_
  obtain ⟨r_2, σ_2, τ_2, q_2, h⟩ := bd_some h
  refine gx_cVi (As := [.int x3]) (rest := []) S hK gx_ok hw (c_X8_secondOf l (E := E) N σ_1 τ_1 x3 q_2) cw_X1_103 t_3 cl_9 ⟨Nat.le_of_ble_eq_true rfl, Nat.le_of_ble_eq_true rfl⟩ rfl hl.1 rfl (Nat.le_of_ble_eq_true rfl) ⟨Nat.le_of_ble_eq_true rfl, Nat.le_of_ble_eq_true rfl⟩ dX1_wayOf_15 (fun r9 σ9 τ9 H locs hp hw => ?_)
  obtain ⟨rfl, rfl, rfl⟩ := hp
  refine lv_istore (lv' := [(6, .int r_2), (5, .int r_1), (0, .ref (E.2.2 + 158)), (1, .ref (E.2.2 + d)), (2, .int x2), (3, .int x3), (4, .int x4)]) hx hb dX1_wayOf_18 hl (by decide) rfl (fun ls hl => ?_)
  refine lv_iload hx hb dX1_wayOf_20 (lv_at hl 1 rfl) ?_
  refine lv_iload hx hb dX1_wayOf_22 (lv_at hl 0 rfl) ?_
  refine lv_icmp_ne (tgt := 30) hx hb dX1_wayOf_24 (by decide) (fun c_3 => ?_) (fun c_3 => ?_)
  · rw [if_neg c_3] at h
    refine lv_aload_n hx hb dX1_wayOf_30 rfl (lv_at hl 2 rfl) ?_
    refine gx_getr (j := 17) S hK hw t_158 cl_2 2 (by decide) rfl mw_373 rfl dX1_wayOf_31 ?_
    refine gx_get S hK hw t_17 cl_6 9 (by decide) rfl mw_210 rfl dX1_wayOf_34 ?_
    refine lv_if_eq (tgt := 52) hx hb dX1_wayOf_37 (by decide) (fun c_4 => ?_) (fun c_4 => ?_)
    · rw [if_pos c_4] at h
      exact b_X1_wayOf_52 l S hr hlk hK N d td σ_2 τ_2 x2 x3 x4 r_1 r_2 h hw (lv_sub hl [2, 3, 4, 5, 6, 1, 0] rfl)
    · rw [if_neg c_4] at h
      refine lv_aload_n hx hb dX1_wayOf_40 rfl (lv_at hl 2 rfl) ?_
      refine lv_dup hx hb dX1_wayOf_41 rfl ?_
      refine gx_get S hK hw t_158 cl_2 4 (by decide) rfl mw_376 rfl dX1_wayOf_42 ?_
      refine lv_iconst (v := 1) hx hb dX1_wayOf_45 (by decide) ?_
      refine lv_iload_n hx hb dX1_wayOf_46 rfl (lv_at hl 5 rfl) ?_
      refine lv_ishl hx hb dX1_wayOf_47 ?_
      refine lv_ior hx hb dX1_wayOf_48 ?_
      refine gx_put S hK gx_ok hw t_158 cl_2 4 (by decide) rfl mw_376 rfl rfl (ty := .int) (v := (σ_2 158 4) ||| (1 <<< (x3 &&& 31))) (by decide +kernel) rfl rfl dX1_wayOf_49 (fun H locs hw => ?_)
      obtain ⟨σ_5, e_5, h⟩ := nm_some h
      rw [← e_5] at hw
      exact b_X1_wayOf_52 l S hr hlk hK N d td σ_5 τ_2 x2 x3 x4 r_1 r_2 h hw (lv_sub hl [2, 3, 4, 5, 6, 1, 0] rfl)
  · rw [if_pos c_3] at h
    refine lv_iload hx hb dX1_wayOf_27 (lv_at hl 1 rfl) ?_
    obtain ⟨rfl, rfl, rfl⟩ := sm_inj h
    exact gx_ri (post := gq_p r_1 σ_2 τ_2) (v := r_1) S hr hlk hw rfl dX1_wayOf_29 ⟨rfl, rfl, rfl⟩
set_option maxHeartbeats 4000000 in
set_option maxRecDepth 100000 in
theorem c_X1_wayOf (l : Launch) {E : gE} (N : Nat) (d : Nat) (td : gx_isS d) (σ : gI) (τ : gJ) (x2 : Int32) (x3 : Int32) (x4 : Int32) {r : Int32} {σ1 : gI} {τ1 : gJ} (h : B_X1_wayOf_0 N d σ τ x2 x3 x4 = some (r, σ1, τ1)) : gx_Mi l yX1_wayOf cX1_wayOf 7 (some .int) 1 gx_tb E σ τ [.ref (E.2.2 + 158), .ref (E.2.2 + d), .int x2, .int x3, .int x4] (gq_p r σ1 τ1) := by
  refine gx_bi (by decide +kernel) (Nat.le_of_ble_eq_true rfl) ?_
  intro P9 e9 s m9 below meth C9 S hr hlk hK hw ls hl
  have hl : lv_has ls 7 [(0, .ref (E.2.2 + 158)), (1, .ref (E.2.2 + d)), (2, .int x2), (3, .int x3), (4, .int x4)] := hl
  exact b_X1_wayOf_0 l S hr hlk hK N d td σ τ x2 x3 x4 h hw hl
/-! X6_setPurse -/
def B_X6_setPurse_0 (N : Nat) (c : Nat) (σ : gI) (τ : gJ) (x1 : Int32) (x2 : Int32) : Option (Unit × gI × gJ) := if x1 < 0 then (some ((), σ, τ)) else (if 6 ≤ x1 then (some ((), σ, τ)) else (ck x1 6 fun j_3 => nm (up2 σ (c + 3) j_3 x2) fun σ_4 => some ((), σ_4, τ)))
set_option maxHeartbeats 4000000 in
set_option maxRecDepth 100000 in
theorem b_X6_setPurse_0 (l : Launch) (S : CallFix P9 m9 C9 cX6_setPurse 3 s av.toArray gx_G RX6) (hr : meth.sig.returnType = none) (hlk : meth.locks = false) (hK : gx_K E s) (N : Nat) (c : Nat) (tc : gx_isS c) (σ : gI) (τ : gJ) (x1 : Int32) (x2 : Int32) {r : Unit} {σ1 : gI} {τ1 : gJ} (h : B_X6_setPurse_0 N c σ τ x1 x2 = some (r, σ1, τ1)) {H : Heap} {locs : List Loc} {ls : Array Slot} (hw : gx_W gx_tb gx_tb.length E s σ τ H locs) (hl : lv_has ls 3 [(0, .ref (E.2.2 + c)), (1, .int x1), (2, .int x2)]) : W P9 l e9 (gx_rm 0) s m9 av.toArray below meth C9 H locs 0 0 (gq_Qv below av s E σ1 τ1) (F0 m9 0 ls []) := by
  have hx := S.1
  have hb := S.2.1
  unfold B_X6_setPurse_0 at h
  refine lv_iload_n hx hb dX6_setPurse_0 rfl (lv_at hl 1 rfl) ?_
  refine lv_if_lt (tgt := 17) hx hb dX6_setPurse_1 (by decide) (fun c_1 => ?_) (fun c_1 => ?_)
  · rw [if_pos c_1] at h
    obtain ⟨-, rfl, rfl⟩ := sm_inj h
    exact gx_rv (post := gq_v σ τ) S hr hlk hw dX6_setPurse_17 ⟨rfl, rfl⟩
  · rw [if_neg c_1] at h
    refine lv_iload_n hx hb dX6_setPurse_4 rfl (lv_at hl 1 rfl) ?_
    refine lv_bipush (v := 6) hx hb dX6_setPurse_5 (by decide) ?_
    refine lv_icmp_ge (tgt := 17) hx hb dX6_setPurse_7 (by decide) (fun c_2 => ?_) (fun c_2 => ?_)
    · rw [if_pos c_2] at h
      obtain ⟨-, rfl, rfl⟩ := sm_inj h
      exact gx_rv (post := gq_v σ τ) S hr hlk hw dX6_setPurse_17 ⟨rfl, rfl⟩
    · rw [if_neg c_2] at h
      refine lv_aload_n hx hb dX6_setPurse_10 rfl (lv_at hl 0 rfl) ?_
      refine gx_getr (j := c + 3) S hK hw tc.1 cl_7 2 (by decide) rfl mw_266 rfl dX6_setPurse_11 ?_
      refine lv_iload_n hx hb dX6_setPurse_14 rfl (lv_at hl 1 rfl) ?_
      refine lv_iload_n hx hb dX6_setPurse_15 rfl (lv_at hl 2 rfl) ?_
      obtain ⟨j_3, hj_3, hi_3, h⟩ := ck_some h
      refine gx_iast S hK gx_ok hw (iS_3 tc) j_3 hj_3 hi_3 dX6_setPurse_16 (fun H locs hw => ?_)
      obtain ⟨σ_4, e_4, h⟩ := nm_some h
      rw [← e_4] at hw
      obtain ⟨-, rfl, rfl⟩ := sm_inj h
      exact gx_rv (post := gq_v σ_4 τ) S hr hlk hw dX6_setPurse_17 ⟨rfl, rfl⟩
set_option maxHeartbeats 4000000 in
set_option maxRecDepth 100000 in
theorem c_X6_setPurse (l : Launch) {E : gE} (N : Nat) (c : Nat) (tc : gx_isS c) (σ : gI) (τ : gJ) (x1 : Int32) (x2 : Int32) {r : Unit} {σ1 : gI} {τ1 : gJ} (h : B_X6_setPurse_0 N c σ τ x1 x2 = some (r, σ1, τ1)) : gx_Mv l yX6_setPurse cX6_setPurse 3 none 0 gx_tb E σ τ [.ref (E.2.2 + c), .int x1, .int x2] (gq_v σ1 τ1) := by
  refine gx_bv (by decide +kernel) (Nat.le_of_ble_eq_true rfl) ?_
  intro P9 e9 s m9 below meth C9 S hr hlk hK hw ls hl
  have hl : lv_has ls 3 [(0, .ref (E.2.2 + c)), (1, .int x1), (2, .int x2)] := hl
  exact b_X6_setPurse_0 l S hr hlk hK N c tc σ τ x1 x2 h hw hl
/-! X1_pays -/
def B_X1_pays_0 (N : Nat) (d : Nat) (σ : gI) (τ : gJ) (x2 : Int32) (x3 : Int32) : Option (Int32 × gI × gJ) := bd (B_X6_purseOf_0 N d σ τ x2) fun r_1 σ_1 τ_1 => if x3 ≤ r_1 then (if σ_1 158 7 = 0 then (bd (B_X6_setPurse_0 N d σ_1 τ_1 x2 (r_1 - x3)) fun _ σ_4 τ_4 => some (1, σ_4, τ_4)) else (some (1, σ_1, τ_1))) else (nm (up2 σ_1 158 5 ((σ_1 158 5) ||| (1 <<< (x2 &&& 31)))) fun σ_5 => some (0, σ_5, τ_1))
set_option maxHeartbeats 4000000 in
set_option maxRecDepth 100000 in
theorem b_X1_pays_0 (l : Launch) (S : CallFix P9 m9 C9 cX1_pays 5 s av.toArray gx_G RX1) (hr : meth.sig.returnType = (some .boolean)) (hlk : meth.locks = false) (hK : gx_K E s) (N : Nat) (d : Nat) (td : gx_isS d) (σ : gI) (τ : gJ) (x2 : Int32) (x3 : Int32) {r : Int32} {σ1 : gI} {τ1 : gJ} (h : B_X1_pays_0 N d σ τ x2 x3 = some (r, σ1, τ1)) {H : Heap} {locs : List Loc} {ls : Array Slot} (hw : gx_W gx_tb gx_tb.length E s σ τ H locs) (hl : lv_has ls 5 [(0, .ref (E.2.2 + 158)), (1, .ref (E.2.2 + d)), (2, .int x2), (3, .int x3)]) : W P9 l e9 (gx_rm 1) s m9 av.toArray below meth C9 H locs 0 0 (gq_Qi below av s E r σ1 τ1) (F0 m9 0 ls []) := by
  have hx := S.1
  have hb := S.2.1
  unfold B_X1_pays_0 at h
  refine lv_aload_n hx hb dX1_pays_0 rfl (lv_at hl 1 rfl) ?_
  refine lv_iload_n hx hb dX1_pays_1 rfl (lv_at hl 2 rfl) ?_
  obtain ⟨r_1, σ_1, τ_1, q_1, h⟩ := bd_some h
  refine gx_cVi (As := [.int x2]) (rest := []) S hK gx_ok hw (c_X6_purseOf l (E := E) N d td σ τ x2 q_1) cw_X1_118 td.1 cl_7 ⟨Nat.le_of_ble_eq_true rfl, Nat.le_of_ble_eq_true rfl⟩ rfl hl.1 rfl (Nat.le_of_ble_eq_true rfl) ⟨Nat.le_of_ble_eq_true rfl, Nat.le_of_ble_eq_true rfl⟩ dX1_pays_2 (fun r9 σ9 τ9 H locs hp hw => ?_)
  obtain ⟨rfl, rfl, rfl⟩ := hp
  refine lv_istore (lv' := [(4, .int r_1), (0, .ref (E.2.2 + 158)), (1, .ref (E.2.2 + d)), (2, .int x2), (3, .int x3)]) hx hb dX1_pays_5 hl (by decide) rfl (fun ls hl => ?_)
  refine lv_iload hx hb dX1_pays_7 (lv_at hl 0 rfl) ?_
  refine lv_iload_n hx hb dX1_pays_9 rfl (lv_at hl 4 rfl) ?_
  refine lv_icmp_ge (tgt := 27) hx hb dX1_pays_10 (by decide) (fun c_2 => ?_) (fun c_2 => ?_)
  · rw [if_pos c_2] at h
    refine lv_aload_n hx hb dX1_pays_27 rfl (lv_at hl 1 rfl) ?_
    refine gx_get S hK hw t_158 cl_2 7 (by decide) rfl mw_381 rfl dX1_pays_28 ?_
    refine lv_if_ne (tgt := 43) hx hb dX1_pays_31 (by decide) (fun c_3 => ?_) (fun c_3 => ?_)
    · rw [if_neg c_3] at h
      refine lv_iconst (v := 1) hx hb dX1_pays_43 (by decide) ?_
      obtain ⟨rfl, rfl, rfl⟩ := sm_inj h
      exact gx_ri (post := gq_p 1 σ_1 τ_1) (v := 1) S hr hlk hw rfl dX1_pays_44 ⟨rfl, rfl, rfl⟩
    · rw [if_pos c_3] at h
      refine lv_aload_n hx hb dX1_pays_34 rfl (lv_at hl 2 rfl) ?_
      refine lv_iload_n hx hb dX1_pays_35 rfl (lv_at hl 3 rfl) ?_
      refine lv_iload hx hb dX1_pays_36 (lv_at hl 0 rfl) ?_
      refine lv_iload_n hx hb dX1_pays_38 rfl (lv_at hl 4 rfl) ?_
      refine lv_isub hx hb dX1_pays_39 ?_
      obtain ⟨u_4, σ_4, τ_4, q_4, h⟩ := bd_some h
      refine gx_cVv (As := [.int x2, .int (r_1 - x3)]) (rest := []) S hK gx_ok hw (c_X6_setPurse l (E := E) N d td σ_1 τ_1 x2 (r_1 - x3) q_4) cw_X1_139 td.1 cl_7 ⟨Nat.le_of_ble_eq_true rfl, Nat.le_of_ble_eq_true rfl⟩ rfl hl.1 rfl (Nat.le_of_ble_eq_true rfl) ⟨Nat.le_of_ble_eq_true rfl, Nat.le_of_ble_eq_true rfl⟩ dX1_pays_40 (fun σ9 τ9 H locs hp hw => ?_)
      obtain ⟨rfl, rfl⟩ := hp
      refine lv_iconst (v := 1) hx hb dX1_pays_43 (by decide) ?_
      obtain ⟨rfl, rfl, rfl⟩ := sm_inj h
      exact gx_ri (post := gq_p 1 σ_4 τ_4) (v := 1) S hr hlk hw rfl dX1_pays_44 ⟨rfl, rfl, rfl⟩
  · rw [if_neg c_2] at h
    refine lv_aload_n hx hb dX1_pays_13 rfl (lv_at hl 1 rfl) ?_
    refine lv_dup hx hb dX1_pays_14 rfl ?_
    refine gx_get S hK hw t_158 cl_2 5 (by decide) rfl mw_378 rfl dX1_pays_15 ?_
    refine lv_iconst (v := 1) hx hb dX1_pays_18 (by decide) ?_
    refine lv_iload_n hx hb dX1_pays_19 rfl (lv_at hl 3 rfl) ?_
    refine lv_ishl hx hb dX1_pays_20 ?_
    refine lv_ior hx hb dX1_pays_21 ?_
    refine gx_put S hK gx_ok hw t_158 cl_2 5 (by decide) rfl mw_378 rfl rfl (ty := .int) (v := (σ_1 158 5) ||| (1 <<< (x2 &&& 31))) (by decide +kernel) rfl rfl dX1_pays_22 (fun H locs hw => ?_)
    obtain ⟨σ_5, e_5, h⟩ := nm_some h
    rw [← e_5] at hw
    refine lv_iconst (v := 0) hx hb dX1_pays_25 (by decide) ?_
    obtain ⟨rfl, rfl, rfl⟩ := sm_inj h
    exact gx_ri (post := gq_p 0 σ_5 τ_1) (v := 0) S hr hlk hw rfl dX1_pays_26 ⟨rfl, rfl, rfl⟩
set_option maxHeartbeats 4000000 in
set_option maxRecDepth 100000 in
theorem c_X1_pays (l : Launch) {E : gE} (N : Nat) (d : Nat) (td : gx_isS d) (σ : gI) (τ : gJ) (x2 : Int32) (x3 : Int32) {r : Int32} {σ1 : gI} {τ1 : gJ} (h : B_X1_pays_0 N d σ τ x2 x3 = some (r, σ1, τ1)) : gx_Mi l yX1_pays cX1_pays 5 (some .boolean) 1 gx_tb E σ τ [.ref (E.2.2 + 158), .ref (E.2.2 + d), .int x2, .int x3] (gq_p r σ1 τ1) := by
  refine gx_bi (by decide +kernel) (Nat.le_of_ble_eq_true rfl) ?_
  intro P9 e9 s m9 below meth C9 S hr hlk hK hw ls hl
  have hl : lv_has ls 5 [(0, .ref (E.2.2 + 158)), (1, .ref (E.2.2 + d)), (2, .int x2), (3, .int x3)] := hl
  exact b_X1_pays_0 l S hr hlk hK N d td σ τ x2 x3 h hw hl
/-! X6_lose -/
def B_X6_lose_0 (N : Nat) (c : Nat) (σ : gI) (τ : gJ) (x1 : Int32) : Option (Unit × gI × gJ) := if x1 < 0 then (some ((), σ, τ)) else (if 6 ≤ x1 then (some ((), σ, τ)) else (nm (up2 σ c 10 ((σ c 10) ||| (1 <<< (x1 &&& 31)))) fun σ_3 => ck x1 6 fun j_4 => nm (up2 σ_3 (c + 6) j_4 (σ_3 c 8)) fun σ_5 => some ((), σ_5, τ)))
set_option maxHeartbeats 4000000 in
set_option maxRecDepth 100000 in
theorem b_X6_lose_0 (l : Launch) (S : CallFix P9 m9 C9 cX6_lose 2 s av.toArray gx_G RX6) (hr : meth.sig.returnType = none) (hlk : meth.locks = false) (hK : gx_K E s) (N : Nat) (c : Nat) (tc : gx_isS c) (σ : gI) (τ : gJ) (x1 : Int32) {r : Unit} {σ1 : gI} {τ1 : gJ} (h : B_X6_lose_0 N c σ τ x1 = some (r, σ1, τ1)) {H : Heap} {locs : List Loc} {ls : Array Slot} (hw : gx_W gx_tb gx_tb.length E s σ τ H locs) (hl : lv_has ls 2 [(0, .ref (E.2.2 + c)), (1, .int x1)]) : W P9 l e9 (gx_rm 0) s m9 av.toArray below meth C9 H locs 0 0 (gq_Qv below av s E σ1 τ1) (F0 m9 0 ls []) := by
  have hx := S.1
  have hb := S.2.1
  unfold B_X6_lose_0 at h
  refine lv_iload_n hx hb dX6_lose_0 rfl (lv_at hl 1 rfl) ?_
  refine lv_if_lt (tgt := 32) hx hb dX6_lose_1 (by decide) (fun c_1 => ?_) (fun c_1 => ?_)
  · rw [if_pos c_1] at h
    obtain ⟨-, rfl, rfl⟩ := sm_inj h
    exact gx_rv (post := gq_v σ τ) S hr hlk hw dX6_lose_32 ⟨rfl, rfl⟩
  · rw [if_neg c_1] at h
    refine lv_iload_n hx hb dX6_lose_4 rfl (lv_at hl 1 rfl) ?_
    refine lv_bipush (v := 6) hx hb dX6_lose_5 (by decide) ?_
    refine lv_icmp_ge (tgt := 32) hx hb dX6_lose_7 (by decide) (fun c_2 => ?_) (fun c_2 => ?_)
    · rw [if_pos c_2] at h
      obtain ⟨-, rfl, rfl⟩ := sm_inj h
      exact gx_rv (post := gq_v σ τ) S hr hlk hw dX6_lose_32 ⟨rfl, rfl⟩
    · rw [if_neg c_2] at h
      refine lv_aload_n hx hb dX6_lose_10 rfl (lv_at hl 0 rfl) ?_
      refine lv_dup hx hb dX6_lose_11 rfl ?_
      refine gx_get S hK hw tc.1 cl_7 10 (by decide) rfl mw_284 rfl dX6_lose_12 ?_
      refine lv_iconst (v := 1) hx hb dX6_lose_15 (by decide) ?_
      refine lv_iload_n hx hb dX6_lose_16 rfl (lv_at hl 1 rfl) ?_
      refine lv_ishl hx hb dX6_lose_17 ?_
      refine lv_ior hx hb dX6_lose_18 ?_
      refine gx_put S hK gx_ok hw tc.1 cl_7 10 (by decide) rfl mw_284 rfl rfl (ty := .int) (v := (σ c 10) ||| (1 <<< (x1 &&& 31))) (by decide +kernel) rfl rfl dX6_lose_19 (fun H locs hw => ?_)
      obtain ⟨σ_3, e_3, h⟩ := nm_some h
      rw [← e_3] at hw
      refine lv_aload_n hx hb dX6_lose_22 rfl (lv_at hl 0 rfl) ?_
      refine gx_getr (j := c + 6) S hK hw tc.1 cl_7 5 (by decide) rfl mw_269 rfl dX6_lose_23 ?_
      refine lv_iload_n hx hb dX6_lose_26 rfl (lv_at hl 1 rfl) ?_
      refine lv_aload_n hx hb dX6_lose_27 rfl (lv_at hl 0 rfl) ?_
      refine gx_get S hK hw tc.1 cl_7 8 (by decide) rfl mw_277 rfl dX6_lose_28 ?_
      obtain ⟨j_4, hj_4, hi_4, h⟩ := ck_some h
      refine gx_iast S hK gx_ok hw (iS_6 tc) j_4 hj_4 hi_4 dX6_lose_31 (fun H locs hw => ?_)
      obtain ⟨σ_5, e_5, h⟩ := nm_some h
      rw [← e_5] at hw
      obtain ⟨-, rfl, rfl⟩ := sm_inj h
      exact gx_rv (post := gq_v σ_5 τ) S hr hlk hw dX6_lose_32 ⟨rfl, rfl⟩
set_option maxHeartbeats 4000000 in
set_option maxRecDepth 100000 in
theorem c_X6_lose (l : Launch) {E : gE} (N : Nat) (c : Nat) (tc : gx_isS c) (σ : gI) (τ : gJ) (x1 : Int32) {r : Unit} {σ1 : gI} {τ1 : gJ} (h : B_X6_lose_0 N c σ τ x1 = some (r, σ1, τ1)) : gx_Mv l yX6_lose cX6_lose 2 none 0 gx_tb E σ τ [.ref (E.2.2 + c), .int x1] (gq_v σ1 τ1) := by
  refine gx_bv (by decide +kernel) (Nat.le_of_ble_eq_true rfl) ?_
  intro P9 e9 s m9 below meth C9 S hr hlk hK hw ls hl
  have hl : lv_has ls 2 [(0, .ref (E.2.2 + c)), (1, .int x1)] := hl
  exact b_X6_lose_0 l S hr hlk hK N c tc σ τ x1 h hw hl
/-! X6_setPaper -/
def B_X6_setPaper_0 (N : Nat) (c : Nat) (σ : gI) (τ : gJ) (x1 : Int32) (x2 : Int32) : Option (Unit × gI × gJ) := if x1 < 0 then (some ((), σ, τ)) else (if 6 ≤ x1 then (some ((), σ, τ)) else (ck x1 6 fun j_3 => nm (up2 σ (c + 2) j_3 x2) fun σ_4 => some ((), σ_4, τ)))
set_option maxHeartbeats 4000000 in
set_option maxRecDepth 100000 in
theorem b_X6_setPaper_0 (l : Launch) (S : CallFix P9 m9 C9 cX6_setPaper 3 s av.toArray gx_G RX6) (hr : meth.sig.returnType = none) (hlk : meth.locks = false) (hK : gx_K E s) (N : Nat) (c : Nat) (tc : gx_isS c) (σ : gI) (τ : gJ) (x1 : Int32) (x2 : Int32) {r : Unit} {σ1 : gI} {τ1 : gJ} (h : B_X6_setPaper_0 N c σ τ x1 x2 = some (r, σ1, τ1)) {H : Heap} {locs : List Loc} {ls : Array Slot} (hw : gx_W gx_tb gx_tb.length E s σ τ H locs) (hl : lv_has ls 3 [(0, .ref (E.2.2 + c)), (1, .int x1), (2, .int x2)]) : W P9 l e9 (gx_rm 0) s m9 av.toArray below meth C9 H locs 0 0 (gq_Qv below av s E σ1 τ1) (F0 m9 0 ls []) := by
  have hx := S.1
  have hb := S.2.1
  unfold B_X6_setPaper_0 at h
  refine lv_iload_n hx hb dX6_setPaper_0 rfl (lv_at hl 1 rfl) ?_
  refine lv_if_lt (tgt := 17) hx hb dX6_setPaper_1 (by decide) (fun c_1 => ?_) (fun c_1 => ?_)
  · rw [if_pos c_1] at h
    obtain ⟨-, rfl, rfl⟩ := sm_inj h
    exact gx_rv (post := gq_v σ τ) S hr hlk hw dX6_setPaper_17 ⟨rfl, rfl⟩
  · rw [if_neg c_1] at h
    refine lv_iload_n hx hb dX6_setPaper_4 rfl (lv_at hl 1 rfl) ?_
    refine lv_bipush (v := 6) hx hb dX6_setPaper_5 (by decide) ?_
    refine lv_icmp_ge (tgt := 17) hx hb dX6_setPaper_7 (by decide) (fun c_2 => ?_) (fun c_2 => ?_)
    · rw [if_pos c_2] at h
      obtain ⟨-, rfl, rfl⟩ := sm_inj h
      exact gx_rv (post := gq_v σ τ) S hr hlk hw dX6_setPaper_17 ⟨rfl, rfl⟩
    · rw [if_neg c_2] at h
      refine lv_aload_n hx hb dX6_setPaper_10 rfl (lv_at hl 0 rfl) ?_
      refine gx_getr (j := c + 2) S hK hw tc.1 cl_7 1 (by decide) rfl mw_265 rfl dX6_setPaper_11 ?_
      refine lv_iload_n hx hb dX6_setPaper_14 rfl (lv_at hl 1 rfl) ?_
      refine lv_iload_n hx hb dX6_setPaper_15 rfl (lv_at hl 2 rfl) ?_
      obtain ⟨j_3, hj_3, hi_3, h⟩ := ck_some h
      refine gx_iast S hK gx_ok hw (iS_2 tc) j_3 hj_3 hi_3 dX6_setPaper_16 (fun H locs hw => ?_)
      obtain ⟨σ_4, e_4, h⟩ := nm_some h
      rw [← e_4] at hw
      obtain ⟨-, rfl, rfl⟩ := sm_inj h
      exact gx_rv (post := gq_v σ_4 τ) S hr hlk hw dX6_setPaper_17 ⟨rfl, rfl⟩
set_option maxHeartbeats 4000000 in
set_option maxRecDepth 100000 in
theorem c_X6_setPaper (l : Launch) {E : gE} (N : Nat) (c : Nat) (tc : gx_isS c) (σ : gI) (τ : gJ) (x1 : Int32) (x2 : Int32) {r : Unit} {σ1 : gI} {τ1 : gJ} (h : B_X6_setPaper_0 N c σ τ x1 x2 = some (r, σ1, τ1)) : gx_Mv l yX6_setPaper cX6_setPaper 3 none 0 gx_tb E σ τ [.ref (E.2.2 + c), .int x1, .int x2] (gq_v σ1 τ1) := by
  refine gx_bv (by decide +kernel) (Nat.le_of_ble_eq_true rfl) ?_
  intro P9 e9 s m9 below meth C9 S hr hlk hK hw ls hl
  have hl : lv_has ls 3 [(0, .ref (E.2.2 + c)), (1, .int x1), (2, .int x2)] := hl
  exact b_X6_setPaper_0 l S hr hlk hK N c tc σ τ x1 x2 h hw hl
/-! X6_move -/
def B_X6_move_0 (N : Nat) (c : Nat) (σ : gI) (τ : gJ) (x1 : Int32) (x2 : Int32) : Option (Unit × gI × gJ) := if x1 < 0 then (some ((), σ, τ)) else (if 6 ≤ x1 then (some ((), σ, τ)) else (ck x1 6 fun j_3 => nm (up2 σ (c + 1) j_3 x2) fun σ_4 => nm (up2 σ_4 (c + 4) j_3 ((σ_4 (c + 4) j_3) ||| (1 <<< (x2 &&& 31)))) fun σ_5 => some ((), σ_5, τ)))
set_option maxHeartbeats 4000000 in
set_option maxRecDepth 100000 in
theorem b_X6_move_0 (l : Launch) (S : CallFix P9 m9 C9 cX6_move 3 s av.toArray gx_G RX6) (hr : meth.sig.returnType = none) (hlk : meth.locks = false) (hK : gx_K E s) (N : Nat) (c : Nat) (tc : gx_isS c) (σ : gI) (τ : gJ) (x1 : Int32) (x2 : Int32) {r : Unit} {σ1 : gI} {τ1 : gJ} (h : B_X6_move_0 N c σ τ x1 x2 = some (r, σ1, τ1)) {H : Heap} {locs : List Loc} {ls : Array Slot} (hw : gx_W gx_tb gx_tb.length E s σ τ H locs) (hl : lv_has ls 3 [(0, .ref (E.2.2 + c)), (1, .int x1), (2, .int x2)]) : W P9 l e9 (gx_rm 0) s m9 av.toArray below meth C9 H locs 0 0 (gq_Qv below av s E σ1 τ1) (F0 m9 0 ls []) := by
  have hx := S.1
  have hb := S.2.1
  unfold B_X6_move_0 at h
  refine lv_iload_n hx hb dX6_move_0 rfl (lv_at hl 1 rfl) ?_
  refine lv_if_lt (tgt := 29) hx hb dX6_move_1 (by decide) (fun c_1 => ?_) (fun c_1 => ?_)
  · rw [if_pos c_1] at h
    obtain ⟨-, rfl, rfl⟩ := sm_inj h
    exact gx_rv (post := gq_v σ τ) S hr hlk hw dX6_move_29 ⟨rfl, rfl⟩
  · rw [if_neg c_1] at h
    refine lv_iload_n hx hb dX6_move_4 rfl (lv_at hl 1 rfl) ?_
    refine lv_bipush (v := 6) hx hb dX6_move_5 (by decide) ?_
    refine lv_icmp_ge (tgt := 29) hx hb dX6_move_7 (by decide) (fun c_2 => ?_) (fun c_2 => ?_)
    · rw [if_pos c_2] at h
      obtain ⟨-, rfl, rfl⟩ := sm_inj h
      exact gx_rv (post := gq_v σ τ) S hr hlk hw dX6_move_29 ⟨rfl, rfl⟩
    · rw [if_neg c_2] at h
      refine lv_aload_n hx hb dX6_move_10 rfl (lv_at hl 0 rfl) ?_
      refine gx_getr (j := c + 1) S hK hw tc.1 cl_7 0 (by decide) rfl mw_264 rfl dX6_move_11 ?_
      refine lv_iload_n hx hb dX6_move_14 rfl (lv_at hl 1 rfl) ?_
      refine lv_iload_n hx hb dX6_move_15 rfl (lv_at hl 2 rfl) ?_
      obtain ⟨j_3, hj_3, hi_3, h⟩ := ck_some h
      refine gx_iast S hK gx_ok hw (iS_1 tc) j_3 hj_3 hi_3 dX6_move_16 (fun H locs hw => ?_)
      obtain ⟨σ_4, e_4, h⟩ := nm_some h
      rw [← e_4] at hw
      refine lv_aload_n hx hb dX6_move_17 rfl (lv_at hl 0 rfl) ?_
      refine gx_getr (j := c + 4) S hK hw tc.1 cl_7 3 (by decide) rfl mw_267 rfl dX6_move_18 ?_
      refine lv_iload_n hx hb dX6_move_21 rfl (lv_at hl 1 rfl) ?_
      refine lv_dup2_11 hx hb dX6_move_22 rfl rfl ?_
      refine gx_iald S hK hw (iS_4 tc) j_3 hj_3 hi_3 dX6_move_23 ?_
      refine lv_iconst (v := 1) hx hb dX6_move_24 (by decide) ?_
      refine lv_iload_n hx hb dX6_move_25 rfl (lv_at hl 2 rfl) ?_
      refine lv_ishl hx hb dX6_move_26 ?_
      refine lv_ior hx hb dX6_move_27 ?_
      refine gx_iast S hK gx_ok hw (iS_4 tc) j_3 hj_3 hi_3 dX6_move_28 (fun H locs hw => ?_)
      obtain ⟨σ_5, e_5, h⟩ := nm_some h
      rw [← e_5] at hw
      obtain ⟨-, rfl, rfl⟩ := sm_inj h
      exact gx_rv (post := gq_v σ_5 τ) S hr hlk hw dX6_move_29 ⟨rfl, rfl⟩
set_option maxHeartbeats 4000000 in
set_option maxRecDepth 100000 in
theorem c_X6_move (l : Launch) {E : gE} (N : Nat) (c : Nat) (tc : gx_isS c) (σ : gI) (τ : gJ) (x1 : Int32) (x2 : Int32) {r : Unit} {σ1 : gI} {τ1 : gJ} (h : B_X6_move_0 N c σ τ x1 x2 = some (r, σ1, τ1)) : gx_Mv l yX6_move cX6_move 3 none 0 gx_tb E σ τ [.ref (E.2.2 + c), .int x1, .int x2] (gq_v σ1 τ1) := by
  refine gx_bv (by decide +kernel) (Nat.le_of_ble_eq_true rfl) ?_
  intro P9 e9 s m9 below meth C9 S hr hlk hK hw ls hl
  have hl : lv_has ls 3 [(0, .ref (E.2.2 + c)), (1, .int x1), (2, .int x2)] := hl
  exact b_X6_move_0 l S hr hlk hK N c tc σ τ x1 x2 h hw hl
end F0
