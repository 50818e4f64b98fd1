def sb_3 : List Int32 := [116, 112, 110, 99]
theorem zk_3 : gx_ss[3]? = some (RX2, 47, "tpnc", sb_3) := rfl
section F2
variable {a9 v9 : Nat} {w9 : Value} {P9 : Program} {e9 : Env} {s : State} {m9 : MethodId} {below : List Frame} {meth : Method} {C9 : Code} {E : gE} {av : List Value}
/-! X2_readMinutes -/
def B_X2_readMinutes_0 (N : Nat) (σ : gI) (τ : gJ) (x2 : Int32) : Option (Int32 × gI × gJ) := bd (B_X2_behindNumber_0 N σ τ x2) fun r_1 σ_1 τ_1 => if r_1 < 0 then (some (r_1, σ_1, τ_1)) else (bd (B_X2_numberAt_0 N σ_1 τ_1 x2 r_1) fun r_3 σ_3 τ_3 => bd (B_X2_add_0 N σ_3 τ_3 2 r_3 0 0) fun _ σ_4 τ_4 => some (r_1, σ_4, τ_4))
set_option maxHeartbeats 4000000 in
set_option maxRecDepth 100000 in
theorem b_X2_readMinutes_0 (l : Launch) (S : CallFix P9 m9 C9 cX2_readMinutes 4 s av.toArray gx_G RX2) (hr : meth.sig.returnType = (some .int)) (hlk : meth.locks = false) (hK : gx_K E s) (N : Nat) (σ : gI) (τ : gJ) (x2 : Int32) {r : Int32} {σ1 : gI} {τ1 : gJ} (h : B_X2_readMinutes_0 N σ τ x2 = some (r, σ1, τ1)) {H : Heap} {locs : List Loc} {ls : Array Slot} (hw : gx_W gx_tb gx_tb.length E s σ τ H locs) (hl : lv_has ls 4 [(0, .ref (E.2.2 + 25)), (1, .ref (E.2.2 + 1)), (2, .int x2)]) : W P9 l e9 (gx_rm 3) s m9 av.toArray below meth C9 H locs 0 0 (gq_Qi below av s E r σ1 τ1) (F0 m9 0 ls []) := by
  have hx := S.1
  have hb := S.2.1
  unfold B_X2_readMinutes_0 at h
  refine lv_aload_n hx hb dX2_readMinutes_0 rfl (lv_at hl 1 rfl) ?_
  refine lv_iload_n hx hb dX2_readMinutes_1 rfl (lv_at hl 2 rfl) ?_
  obtain ⟨r_1, σ_1, τ_1, q_1, h⟩ := bd_some h
  refine gx_cSi (As := [.ref (E.2.2 + 1), .int x2]) (rest := []) S hK gx_ok hw (c_X2_behindNumber l (E := E) N σ τ x2 q_1) cw_X2_69 ⟨Nat.le_of_ble_eq_true rfl, Nat.le_of_ble_eq_true rfl⟩ rfl hl.1 rfl (Nat.le_of_ble_eq_true rfl) ⟨Nat.le_of_ble_eq_true rfl, Nat.le_of_ble_eq_true rfl⟩ dX2_readMinutes_2 (fun r9 σ9 τ9 H locs hp hw => ?_)
  obtain ⟨rfl, rfl, rfl⟩ := hp
  refine lv_istore_n (lv' := [(3, .int r_1), (0, .ref (E.2.2 + 25)), (1, .ref (E.2.2 + 1)), (2, .int x2)]) hx hb dX2_readMinutes_5 rfl hl (by decide) rfl (fun ls hl => ?_)
  refine lv_iload_n hx hb dX2_readMinutes_6 rfl (lv_at hl 0 rfl) ?_
  refine lv_if_lt (tgt := 23) hx hb dX2_readMinutes_7 (by decide) (fun c_2 => ?_) (fun c_2 => ?_)
  · rw [if_pos c_2] at h
    refine lv_iload_n hx hb dX2_readMinutes_23 rfl (lv_at hl 0 rfl) ?_
    obtain ⟨rfl, rfl, rfl⟩ := sm_inj h
    exact gx_ri (post := gq_p r_1 σ_1 τ_1) (v := r_1) S hr hlk hw rfl dX2_readMinutes_24 ⟨rfl, rfl, rfl⟩
  · rw [if_neg c_2] at h
    refine lv_aload_n hx hb dX2_readMinutes_10 rfl (lv_at hl 1 rfl) ?_
    refine lv_iconst (v := 2) hx hb dX2_readMinutes_11 (by decide) ?_
    refine lv_aload_n hx hb dX2_readMinutes_12 rfl (lv_at hl 2 rfl) ?_
    refine lv_iload_n hx hb dX2_readMinutes_13 rfl (lv_at hl 3 rfl) ?_
    refine lv_iload_n hx hb dX2_readMinutes_14 rfl (lv_at hl 0 rfl) ?_
    obtain ⟨r_3, σ_3, τ_3, q_3, h⟩ := bd_some h
    refine gx_cSi (As := [.ref (E.2.2 + 1), .int x2, .int r_1]) (rest := [.int 2, .ref (E.2.2 + 25)]) S hK gx_ok hw (c_X2_numberAt l (E := E) N σ_1 τ_1 x2 r_1 q_3) cw_X2_72 ⟨Nat.le_of_ble_eq_true rfl, Nat.le_of_ble_eq_true rfl⟩ rfl hl.1 rfl (Nat.le_of_ble_eq_true rfl) ⟨Nat.le_of_ble_eq_true rfl, Nat.le_of_ble_eq_true rfl⟩ dX2_readMinutes_15 (fun r9 σ9 τ9 H locs hp hw => ?_)
    obtain ⟨rfl, rfl, rfl⟩ := hp
    refine lv_iconst (v := 0) hx hb dX2_readMinutes_18 (by decide) ?_
    refine lv_iconst (v := 0) hx hb dX2_readMinutes_19 (by decide) ?_
    obtain ⟨u_4, σ_4, τ_4, q_4, h⟩ := bd_some h
    refine gx_cVv (As := [.int 2, .int r_3, .int 0, .int 0]) (rest := []) S hK gx_ok hw (c_X2_add l (E := E) N σ_3 τ_3 2 r_3 0 0 q_4) cw_X2_76 t_25 cl_3 ⟨Nat.le_of_ble_eq_true rfl, Nat.le_of_ble_eq_true rfl⟩ rfl hl.1 rfl (Nat.le_of_ble_eq_true rfl) ⟨Nat.le_of_ble_eq_true rfl, Nat.le_of_ble_eq_true rfl⟩ dX2_readMinutes_20 (fun σ9 τ9 H locs hp hw => ?_)
    obtain ⟨rfl, rfl⟩ := hp
    refine lv_iload_n hx hb dX2_readMinutes_23 rfl (lv_at hl 0 rfl) ?_
    obtain ⟨rfl, rfl, rfl⟩ := sm_inj h
    exact gx_ri (post := gq_p r_1 σ_4 τ_4) (v := r_1) S hr hlk hw rfl dX2_readMinutes_24 ⟨rfl, rfl, rfl⟩
set_option maxHeartbeats 4000000 in
set_option maxRecDepth 100000 in
theorem c_X2_readMinutes (l : Launch) {E : gE} (N : Nat) (σ : gI) (τ : gJ) (x2 : Int32) {r : Int32} {σ1 : gI} {τ1 : gJ} (h : B_X2_readMinutes_0 N σ τ x2 = some (r, σ1, τ1)) : gx_Mi l yX2_readMinutes cX2_readMinutes 4 (some .int) 3 gx_tb E σ τ [.ref (E.2.2 + 25), .ref (E.2.2 + 1), .int x2] (gq_p r σ1 τ1) := by
  refine gx_bi (by decide +kernel) (Nat.le_of_ble_eq_true rfl) ?_
  intro P9 e9 s m9 below meth C9 S hr hlk hK hw ls hl
  have hl : lv_has ls 4 [(0, .ref (E.2.2 + 25)), (1, .ref (E.2.2 + 1)), (2, .int x2)] := hl
  exact b_X2_readMinutes_0 l S hr hlk hK N σ τ x2 h hw hl
/-! X2_readGive -/
def B_X2_readGive_0 (N : Nat) (σ : gI) (τ : gJ) (x2 : Int32) : Option (Int32 × gI × gJ) := bd (B_X7_digit_0 N σ τ x2) fun r_1 σ_1 τ_1 => if 0 ≤ r_1 then (bd (B_X7_digit_0 N σ_1 τ_1 (x2 + 1)) fun r_3 σ_3 τ_3 => if 1 ≤ r_3 then (bd (B_X2_add_0 N σ_3 τ_3 3 r_1 r_3 0) fun _ σ_5 τ_5 => some (x2 + 2, σ_5, τ_5)) else (some ((-1) - (x2 + 1), σ_3, τ_3))) else (some ((-1) - x2, σ_1, τ_1))
set_option maxHeartbeats 4000000 in
set_option maxRecDepth 100000 in
theorem b_X2_readGive_0 (l : Launch) (S : CallFix P9 m9 C9 cX2_readGive 5 s av.toArray gx_G RX2) (hr : meth.sig.returnType = (some .int)) (hlk : meth.locks = false) (hK : gx_K E s) (N : Nat) (σ : gI) (τ : gJ) (x2 : Int32) {r : Int32} {σ1 : gI} {τ1 : gJ} (h : B_X2_readGive_0 N σ τ x2 = some (r, σ1, τ1)) {H : Heap} {locs : List Loc} {ls : Array Slot} (hw : gx_W gx_tb gx_tb.length E s σ τ H locs) (hl : lv_has ls 5 [(0, .ref (E.2.2 + 25)), (1, .ref (E.2.2 + 1)), (2, .int x2)]) : W P9 l e9 (gx_rm 2) s m9 av.toArray below meth C9 H locs 0 0 (gq_Qi below av s E r σ1 τ1) (F0 m9 0 ls []) := by
  have hx := S.1
  have hb := S.2.1
  unfold B_X2_readGive_0 at h
  refine lv_aload_n hx hb dX2_readGive_0 rfl (lv_at hl 1 rfl) ?_
  refine lv_iload_n hx hb dX2_readGive_1 rfl (lv_at hl 2 rfl) ?_
  obtain ⟨r_1, σ_1, τ_1, q_1, h⟩ := bd_some h
  refine gx_cVi (As := [.int x2]) (rest := []) S hK gx_ok hw (c_X7_digit l (E := E) N σ τ x2 q_1) cw_X2_80 t_1 cl_8 ⟨Nat.le_of_ble_eq_true rfl, Nat.le_of_ble_eq_true rfl⟩ rfl hl.1 rfl (Nat.le_of_ble_eq_true rfl) ⟨Nat.le_of_ble_eq_true rfl, Nat.le_of_ble_eq_true rfl⟩ dX2_readGive_2 (fun r9 σ9 τ9 H locs hp hw => ?_)
  obtain ⟨rfl, rfl, rfl⟩ := hp
  refine lv_istore_n (lv' := [(3, .int r_1), (0, .ref (E.2.2 + 25)), (1, .ref (E.2.2 + 1)), (2, .int x2)]) hx hb dX2_readGive_5 rfl hl (by decide) rfl (fun ls hl => ?_)
  refine lv_iload_n hx hb dX2_readGive_6 rfl (lv_at hl 0 rfl) ?_
  refine lv_if_ge (tgt := 14) hx hb dX2_readGive_7 (by decide) (fun c_2 => ?_) (fun c_2 => ?_)
  · rw [if_pos c_2] at h
    refine lv_aload_n hx hb dX2_readGive_14 rfl (lv_at hl 2 rfl) ?_
    refine lv_iload_n hx hb dX2_readGive_15 rfl (lv_at hl 3 rfl) ?_
    refine lv_iconst (v := 1) hx hb dX2_readGive_16 (by decide) ?_
    refine lv_iadd hx hb dX2_readGive_17 ?_
    obtain ⟨r_3, σ_3, τ_3, q_3, h⟩ := bd_some h
    refine gx_cVi (As := [.int (x2 + 1)]) (rest := []) S hK gx_ok hw (c_X7_digit l (E := E) N σ_1 τ_1 (x2 + 1) q_3) cw_X2_80 t_1 cl_8 ⟨Nat.le_of_ble_eq_true rfl, Nat.le_of_ble_eq_true rfl⟩ rfl hl.1 rfl (Nat.le_of_ble_eq_true rfl) ⟨Nat.le_of_ble_eq_true rfl, Nat.le_of_ble_eq_true rfl⟩ dX2_readGive_18 (fun r9 σ9 τ9 H locs hp hw => ?_)
    obtain ⟨rfl, rfl, rfl⟩ := hp
    refine lv_istore (lv' := [(4, .int r_3), (3, .int r_1), (0, .ref (E.2.2 + 25)), (1, .ref (E.2.2 + 1)), (2, .int x2)]) hx hb dX2_readGive_21 hl (by decide) rfl (fun ls hl => ?_)
    refine lv_iload hx hb dX2_readGive_23 (lv_at hl 0 rfl) ?_
    refine lv_iconst (v := 1) hx hb dX2_readGive_25 (by decide) ?_
    refine lv_icmp_ge (tgt := 35) hx hb dX2_readGive_26 (by decide) (fun c_4 => ?_) (fun c_4 => ?_)
    · rw [if_pos c_4] at h
      refine lv_aload_n hx hb dX2_readGive_35 rfl (lv_at hl 2 rfl) ?_
      refine lv_iconst (v := 3) hx hb dX2_readGive_36 (by decide) ?_
      refine lv_iload_n hx hb dX2_readGive_37 rfl (lv_at hl 1 rfl) ?_
      refine lv_iload hx hb dX2_readGive_38 (lv_at hl 0 rfl) ?_
      refine lv_iconst (v := 0) hx hb dX2_readGive_40 (by decide) ?_
      obtain ⟨u_5, σ_5, τ_5, q_5, h⟩ := bd_some h
      refine gx_cVv (As := [.int 3, .int r_1, .int r_3, .int 0]) (rest := []) S hK gx_ok hw (c_X2_add l (E := E) N σ_3 τ_3 3 r_1 r_3 0 q_5) cw_X2_76 t_25 cl_3 ⟨Nat.le_of_ble_eq_true rfl, Nat.le_of_ble_eq_true rfl⟩ rfl hl.1 rfl (Nat.le_of_ble_eq_true rfl) ⟨Nat.le_of_ble_eq_true rfl, Nat.le_of_ble_eq_true rfl⟩ dX2_readGive_41 (fun σ9 τ9 H locs hp hw => ?_)
      obtain ⟨rfl, rfl⟩ := hp
      refine lv_iload_n hx hb dX2_readGive_44 rfl (lv_at hl 4 rfl) ?_
      refine lv_iconst (v := 2) hx hb dX2_readGive_45 (by decide) ?_
      refine lv_iadd hx hb dX2_readGive_46 ?_
      obtain ⟨rfl, rfl, rfl⟩ := sm_inj h
      exact gx_ri (post := gq_p (x2 + 2) σ_5 τ_5) (v := x2 + 2) S hr hlk hw rfl dX2_readGive_47 ⟨rfl, rfl, rfl⟩
    · rw [if_neg c_4] at h
      refine lv_iconst (v := (-1)) hx hb dX2_readGive_29 (by decide) ?_
      refine lv_iload_n hx hb dX2_readGive_30 rfl (lv_at hl 4 rfl) ?_
      refine lv_iconst (v := 1) hx hb dX2_readGive_31 (by decide) ?_
      refine lv_iadd hx hb dX2_readGive_32 ?_
      refine lv_isub hx hb dX2_readGive_33 ?_
      obtain ⟨rfl, rfl, rfl⟩ := sm_inj h
      exact gx_ri (post := gq_p ((-1) - (x2 + 1)) σ_3 τ_3) (v := (-1) - (x2 + 1)) S hr hlk hw rfl dX2_readGive_34 ⟨rfl, rfl, rfl⟩
  · rw [if_neg c_2] at h
    refine lv_iconst (v := (-1)) hx hb dX2_readGive_10 (by decide) ?_
    refine lv_iload_n hx hb dX2_readGive_11 rfl (lv_at hl 3 rfl) ?_
    refine lv_isub hx hb dX2_readGive_12 ?_
    obtain ⟨rfl, rfl, rfl⟩ := sm_inj h
    exact gx_ri (post := gq_p ((-1) - x2) σ_1 τ_1) (v := (-1) - x2) S hr hlk hw rfl dX2_readGive_13 ⟨rfl, rfl, rfl⟩
set_option maxHeartbeats 4000000 in
set_option maxRecDepth 100000 in
theorem c_X2_readGive (l : Launch) {E : gE} (N : Nat) (σ : gI) (τ : gJ) (x2 : Int32) {r : Int32} {σ1 : gI} {τ1 : gJ} (h : B_X2_readGive_0 N σ τ x2 = some (r, σ1, τ1)) : gx_Mi l yX2_readGive cX2_readGive 5 (some .int) 2 gx_tb E σ τ [.ref (E.2.2 + 25), .ref (E.2.2 + 1), .int x2] (gq_p r σ1 τ1) := by
  refine gx_bi (by decide +kernel) (Nat.le_of_ble_eq_true rfl) ?_
  intro P9 e9 s m9 below meth C9 S hr hlk hK hw ls hl
  have hl : lv_has ls 5 [(0, .ref (E.2.2 + 25)), (1, .ref (E.2.2 + 1)), (2, .int x2)] := hl
  exact b_X2_readGive_0 l S hr hlk hK N σ τ x2 h hw hl
/-! X2_readAct -/
def B_X2_readAct_0 (N : Nat) (σ : gI) (τ : gJ) (x2 : Int32) : Option (Int32 × gI × gJ) := bd (B_X7_oneOf_0 N sb_3 σ τ x2) fun r_1 σ_1 τ_1 => if r_1 = 0 then (bd (B_X2_readPut_0 N σ_1 τ_1 (x2 + 1)) fun r_3 σ_3 τ_3 => some (r_3, σ_3, τ_3)) else if r_1 = 1 then (bd (B_X2_readTurn_0 N σ_1 τ_1 (x2 + 1)) fun r_5 σ_5 τ_5 => some (r_5, σ_5, τ_5)) else if r_1 = 2 then (bd (B_X2_readMinutes_0 N σ_1 τ_1 (x2 + 1)) fun r_7 σ_7 τ_7 => some (r_7, σ_7, τ_7)) else if r_1 = 3 then (bd (B_X2_readGive_0 N σ_1 τ_1 (x2 + 1)) fun r_9 σ_9 τ_9 => some (r_9, σ_9, τ_9)) else (some ((-1) - x2, σ_1, τ_1))
set_option maxHeartbeats 4000000 in
set_option maxRecDepth 100000 in
theorem b_X2_readAct_0 (l : Launch) (S : CallFix P9 m9 C9 cX2_readAct 3 s av.toArray gx_G RX2) (hr : meth.sig.returnType = (some .int)) (hlk : meth.locks = false) (hK : gx_K E s) (N : Nat) (σ : gI) (τ : gJ) (x2 : Int32) {r : Int32} {σ1 : gI} {τ1 : gJ} (h : B_X2_readAct_0 N σ τ x2 = some (r, σ1, τ1)) {H : Heap} {locs : List Loc} {ls : Array Slot} (hw : gx_W gx_tb gx_tb.length E s σ τ H locs) (hl : lv_has ls 3 [(0, .ref (E.2.2 + 25)), (1, .ref (E.2.2 + 1)), (2, .int x2)]) : W P9 l e9 (gx_rm 5) s m9 av.toArray below meth C9 H locs 0 0 (gq_Qi below av s E r σ1 τ1) (F0 m9 0 ls []) := by
  have hx := S.1
  have hb := S.2.1
  unfold B_X2_readAct_0 at h
  refine lv_aload_n hx hb dX2_readAct_0 rfl (lv_at hl 1 rfl) ?_
  refine gx_lds S hK ss_3 rfl dX2_readAct_1 ?_
  refine lv_iload_n hx hb dX2_readAct_3 rfl (lv_at hl 2 rfl) ?_
  obtain ⟨r_1, σ_1, τ_1, q_1, h⟩ := bd_some h
  refine zs_V (As := [.ref (E.1.2.1 3), .int x2]) (rest := []) S hK hw (zs_k hK hw zk_3) (c_X7_oneOf l (E := E) N sb_3 σ τ x2 q_1) rfl cw_X2_49 (va_recv hK.1 hw.1 cl_8.1 (gx_at t_1)) ⟨Nat.le_of_ble_eq_true rfl, Nat.le_of_ble_eq_true rfl⟩ rfl hl.1 rfl (Nat.le_of_ble_eq_true rfl) ⟨Nat.le_of_ble_eq_true rfl, Nat.le_of_ble_eq_true rfl⟩ dX2_readAct_4 (fun r9 σ9 τ9 H locs hp hw => ?_)
  obtain ⟨rfl, rfl, rfl⟩ := hp
  by_cases c_2 : r_1 = 0
  · rw [if_pos c_2] at h
    refine gx_top (v := 0) c_2 ?_
    refine lv_tableIn (tgt := 36) hx hb dX2_readAct_7 (by decide) (by decide) rfl (by decide) ?_
    refine lv_aload_n hx hb dX2_readAct_36 rfl (lv_at hl 0 rfl) ?_
    refine lv_aload_n hx hb dX2_readAct_37 rfl (lv_at hl 1 rfl) ?_
    refine lv_iload_n hx hb dX2_readAct_38 rfl (lv_at hl 2 rfl) ?_
    refine lv_iconst (v := 1) hx hb dX2_readAct_39 (by decide) ?_
    refine lv_iadd hx hb dX2_readAct_40 ?_
    obtain ⟨r_3, σ_3, τ_3, q_3, h⟩ := bd_some h
    refine gx_cVi (As := [.ref (E.2.2 + 1), .int (x2 + 1)]) (rest := []) S hK gx_ok hw (c_X2_readPut l (E := E) N σ_1 τ_1 (x2 + 1) q_3) cw_X2_53 t_25 cl_3 ⟨Nat.le_of_ble_eq_true rfl, Nat.le_of_ble_eq_true rfl⟩ rfl hl.1 rfl (Nat.le_of_ble_eq_true rfl) ⟨Nat.le_of_ble_eq_true rfl, Nat.le_of_ble_eq_true rfl⟩ dX2_readAct_41 (fun r9 σ9 τ9 H locs hp hw => ?_)
    obtain ⟨rfl, rfl, rfl⟩ := hp
    obtain ⟨rfl, rfl, rfl⟩ := sm_inj h
    exact gx_ri (post := gq_p r_3 σ_3 τ_3) (v := r_3) S hr hlk hw rfl dX2_readAct_44 ⟨rfl, rfl, rfl⟩
  rw [if_neg c_2] at h
  by_cases c_4 : r_1 = 1
  · rw [if_pos c_4] at h
    refine gx_top (v := 1) c_4 ?_
    refine lv_tableIn (tgt := 45) hx hb dX2_readAct_7 (by decide) (by decide) rfl (by decide) ?_
    refine lv_aload_n hx hb dX2_readAct_45 rfl (lv_at hl 0 rfl) ?_
    refine lv_aload_n hx hb dX2_readAct_46 rfl (lv_at hl 1 rfl) ?_
    refine lv_iload_n hx hb dX2_readAct_47 rfl (lv_at hl 2 rfl) ?_
    refine lv_iconst (v := 1) hx hb dX2_readAct_48 (by decide) ?_
    refine lv_iadd hx hb dX2_readAct_49 ?_
    obtain ⟨r_5, σ_5, τ_5, q_5, h⟩ := bd_some h
    refine gx_cVi (As := [.ref (E.2.2 + 1), .int (x2 + 1)]) (rest := []) S hK gx_ok hw (c_X2_readTurn l (E := E) N σ_1 τ_1 (x2 + 1) q_5) cw_X2_56 t_25 cl_3 ⟨Nat.le_of_ble_eq_true rfl, Nat.le_of_ble_eq_true rfl⟩ rfl hl.1 rfl (Nat.le_of_ble_eq_true rfl) ⟨Nat.le_of_ble_eq_true rfl, Nat.le_of_ble_eq_true rfl⟩ dX2_readAct_50 (fun r9 σ9 τ9 H locs hp hw => ?_)
    obtain ⟨rfl, rfl, rfl⟩ := hp
    obtain ⟨rfl, rfl, rfl⟩ := sm_inj h
    exact gx_ri (post := gq_p r_5 σ_5 τ_5) (v := r_5) S hr hlk hw rfl dX2_readAct_53 ⟨rfl, rfl, rfl⟩
  rw [if_neg c_4] at h
  by_cases c_6 : r_1 = 2
  · rw [if_pos c_6] at h
    refine gx_top (v := 2) c_6 ?_
    refine lv_tableIn (tgt := 54) hx hb dX2_readAct_7 (by decide) (by decide) rfl (by decide) ?_
    refine lv_aload_n hx hb dX2_readAct_54 rfl (lv_at hl 0 rfl) ?_
    refine lv_aload_n hx hb dX2_readAct_55 rfl (lv_at hl 1 rfl) ?_
    refine lv_iload_n hx hb dX2_readAct_56 rfl (lv_at hl 2 rfl) ?_
    refine lv_iconst (v := 1) hx hb dX2_readAct_57 (by decide) ?_
    refine lv_iadd hx hb dX2_readAct_58 ?_
    obtain ⟨r_7, σ_7, τ_7, q_7, h⟩ := bd_some h
    refine gx_cVi (As := [.ref (E.2.2 + 1), .int (x2 + 1)]) (rest := []) S hK gx_ok hw (c_X2_readMinutes l (E := E) N σ_1 τ_1 (x2 + 1) q_7) cw_X2_59 t_25 cl_3 ⟨Nat.le_of_ble_eq_true rfl, Nat.le_of_ble_eq_true rfl⟩ rfl hl.1 rfl (Nat.le_of_ble_eq_true rfl) ⟨Nat.le_of_ble_eq_true rfl, Nat.le_of_ble_eq_true rfl⟩ dX2_readAct_59 (fun r9 σ9 τ9 H locs hp hw => ?_)
    obtain ⟨rfl, rfl, rfl⟩ := hp
    obtain ⟨rfl, rfl, rfl⟩ := sm_inj h
    exact gx_ri (post := gq_p r_7 σ_7 τ_7) (v := r_7) S hr hlk hw rfl dX2_readAct_62 ⟨rfl, rfl, rfl⟩
  rw [if_neg c_6] at h
  by_cases c_8 : r_1 = 3
  · rw [if_pos c_8] at h
    refine gx_top (v := 3) c_8 ?_
    refine lv_tableIn (tgt := 63) hx hb dX2_readAct_7 (by decide) (by decide) rfl (by decide) ?_
    refine lv_aload_n hx hb dX2_readAct_63 rfl (lv_at hl 0 rfl) ?_
    refine lv_aload_n hx hb dX2_readAct_64 rfl (lv_at hl 1 rfl) ?_
    refine lv_iload_n hx hb dX2_readAct_65 rfl (lv_at hl 2 rfl) ?_
    refine lv_iconst (v := 1) hx hb dX2_readAct_66 (by decide) ?_
    refine lv_iadd hx hb dX2_readAct_67 ?_
    obtain ⟨r_9, σ_9, τ_9, q_9, h⟩ := bd_some h
    refine gx_cVi (As := [.ref (E.2.2 + 1), .int (x2 + 1)]) (rest := []) S hK gx_ok hw (c_X2_readGive l (E := E) N σ_1 τ_1 (x2 + 1) q_9) cw_X2_62 t_25 cl_3 ⟨Nat.le_of_ble_eq_true rfl, Nat.le_of_ble_eq_true rfl⟩ rfl hl.1 rfl (Nat.le_of_ble_eq_true rfl) ⟨Nat.le_of_ble_eq_true rfl, Nat.le_of_ble_eq_true rfl⟩ dX2_readAct_68 (fun r9 σ9 τ9 H locs hp hw => ?_)
    obtain ⟨rfl, rfl, rfl⟩ := hp
    obtain ⟨rfl, rfl, rfl⟩ := sm_inj h
    exact gx_ri (post := gq_p r_9 σ_9 τ_9) (v := r_9) S hr hlk hw rfl dX2_readAct_71 ⟨rfl, rfl, rfl⟩
  rw [if_neg c_8] at h
  refine lv_tableOut (tgt := 72) hx hb dX2_readAct_7 (by have t_2 := lv_neT (a := 0) c_2 rfl; have t_4 := lv_neT (a := 1) c_4 rfl; have t_6 := lv_neT (a := 2) c_6 rfl; have t_8 := lv_neT (a := 3) c_8 rfl; omega) (by decide) ?_
  refine lv_iconst (v := (-1)) hx hb dX2_readAct_72 (by decide) ?_
  refine lv_iload_n hx hb dX2_readAct_73 rfl (lv_at hl 2 rfl) ?_
  refine lv_isub hx hb dX2_readAct_74 ?_
  obtain ⟨rfl, rfl, rfl⟩ := sm_inj h
  exact gx_ri (post := gq_p ((-1) - x2) σ_1 τ_1) (v := (-1) - x2) S hr hlk hw rfl dX2_readAct_75 ⟨rfl, rfl, rfl⟩
set_option maxHeartbeats 4000000 in
set_option maxRecDepth 100000 in
theorem c_X2_readAct (l : Launch) {E : gE} (N : Nat) (σ : gI) (τ : gJ) (x2 : Int32) {r : Int32} {σ1 : gI} {τ1 : gJ} (h : B_X2_readAct_0 N σ τ x2 = some (r, σ1, τ1)) : gx_Mi l yX2_readAct cX2_readAct 3 (some .int) 5 gx_tb E σ τ [.ref (E.2.2 + 25), .ref (E.2.2 + 1), .int x2] (gq_p r σ1 τ1) := by
  refine gx_bi (by decide +kernel) (Nat.le_of_ble_eq_true rfl) ?_
  intro P9 e9 s m9 below meth C9 S hr hlk hK hw ls hl
  have hl : lv_has ls 3 [(0, .ref (E.2.2 + 25)), (1, .ref (E.2.2 + 1)), (2, .int x2)] := hl
  exact b_X2_readAct_0 l S hr hlk hK N σ τ x2 h hw hl
/-! X2_read -/
def C_X2_read_25 (N : Nat) (rec_25 : gI → gJ → Int32 → Int32 → Option (Int32 × gI × gJ)) (σ : gI) (τ : gJ) (x2 : Int32) (x3 : Int32) : Option (Int32 × gI × gJ) := if 20 ≤ x3 then (some ((-1) - x2, σ, τ)) else (bd (B_X2_readAct_0 N σ τ x2) fun r_2 σ_2 τ_2 => if 0 ≤ r_2 then (bd (B_X7_isOver_0 N σ_2 τ_2 r_2) fun r_4 σ_4 τ_4 => if r_4 = 0 then (bd (B_X7_hasSign_0 N σ_4 τ_4 r_2 59) fun r_6 σ_6 τ_6 => if r_6 = 0 then (some ((-1) - r_2, σ_6, τ_6)) else (nm (r_2 + 1) fun v_8 => nm (x3 + 1) fun v_9 => rec_25 σ_6 τ_6 v_8 v_9)) else (some (σ_4 25 4, σ_4, τ_4))) else (some (r_2, σ_2, τ_2)))
def H_X2_read_25 (N : Nat) : Nat → gI → gJ → Int32 → Int32 → Option (Int32 × gI × gJ) := itn (fun rec_25 => C_X2_read_25 N rec_25) (fun _ _ _ _ => none)
def B_X2_read_0 (N : Nat) (σ : gI) (τ : gJ) : Option (Int32 × gI × gJ) := nm (up2 σ 25 4 0) fun σ_1 => bd (B_X7_showAtMost_0 N σ_1 τ 60) fun _ σ_2 τ_2 => bd (B_X7_isOver_0 N σ_2 τ_2 0) fun r_3 σ_3 τ_3 => if r_3 = 0 then (H_X2_read_25 N N σ_3 τ_3 0 0) else (some (0, σ_3, τ_3))
set_option maxHeartbeats 4000000 in
set_option maxRecDepth 100000 in
theorem k_X2_read_25 (l : Launch) (S : CallFix P9 m9 C9 cX2_read 5 s av.toArray gx_G RX2) (hr : meth.sig.returnType = (some .int)) (hlk : meth.locks = false) (hK : gx_K E s) (N : Nat) (rec_25 : gI → gJ → Int32 → Int32 → Option (Int32 × gI × gJ)) (hrec_25 : ∀ (σ : gI) (τ : gJ) (x2 : Int32) (x3 : Int32) (r : Int32) (σ1 : gI) (τ1 : gJ) (H : Heap) (locs : List Loc) (ls : Array Slot), rec_25 σ τ x2 x3 = some (r, σ1, τ1) → gx_W gx_tb gx_tb.length E s σ τ H locs → lv_has ls 5 [(0, .ref (E.2.2 + 25)), (1, .ref (E.2.2 + 1)), (2, .int x2), (3, .int x3)] → W P9 l e9 (gx_rm 6) s m9 av.toArray below meth C9 H locs 0 0 (gq_Qi below av s E r σ1 τ1) (F0 m9 25 ls [])) (σ : gI) (τ : gJ) (x2 : Int32) (x3 : Int32) {r : Int32} {σ1 : gI} {τ1 : gJ} (h : C_X2_read_25 N rec_25 σ τ x2 x3 = some (r, σ1, τ1)) {H : Heap} {locs : List Loc} {ls : Array Slot} (hw : gx_W gx_tb gx_tb.length E s σ τ H locs) (hl : lv_has ls 5 [(0, .ref (E.2.2 + 25)), (1, .ref (E.2.2 + 1)), (2, .int x2), (3, .int x3)]) : W P9 l e9 (gx_rm 6) s m9 av.toArray below meth C9 H locs 0 0 (gq_Qi below av s E r σ1 τ1) (F0 m9 25 ls []) := by
  have hx := S.1
  have hb := S.2.1
  unfold C_X2_read_25 at h
  refine lv_iload_n hx hb dX2_read_25 rfl (lv_at hl 3 rfl) ?_
  refine lv_bipush (v := 20) hx hb dX2_read_26 (by decide) ?_
  refine lv_icmp_ge (tgt := 88) hx hb dX2_read_28 (by decide) (fun c_1 => ?_) (fun c_1 => ?_)
  · rw [if_pos c_1] at h
    refine lv_iconst (v := (-1)) hx hb dX2_read_88 (by decide) ?_
    refine lv_iload_n hx hb dX2_read_89 rfl (lv_at hl 2 rfl) ?_
    refine lv_isub hx hb dX2_read_90 ?_
    obtain ⟨rfl, rfl, rfl⟩ := sm_inj h
    exact gx_ri (post := gq_p ((-1) - x2) σ τ) (v := (-1) - x2) S hr hlk hw rfl dX2_read_91 ⟨rfl, rfl, rfl⟩
  · rw [if_neg c_1] at h
    refine lv_aload_n hx hb dX2_read_31 rfl (lv_at hl 0 rfl) ?_
    refine lv_aload_n hx hb dX2_read_32 rfl (lv_at hl 1 rfl) ?_
    refine lv_iload_n hx hb dX2_read_33 rfl (lv_at hl 2 rfl) ?_
    obtain ⟨r_2, σ_2, τ_2, q_2, h⟩ := bd_some h
    refine gx_cVi (As := [.ref (E.2.2 + 1), .int x2]) (rest := []) S hK gx_ok hw (c_X2_readAct l (E := E) N σ τ x2 q_2) cw_X2_39 t_25 cl_3 ⟨Nat.le_of_ble_eq_true rfl, Nat.le_of_ble_eq_true rfl⟩ rfl hl.1 rfl (Nat.le_of_ble_eq_true rfl) ⟨Nat.le_of_ble_eq_true rfl, Nat.le_of_ble_eq_true rfl⟩ dX2_read_34 (fun r9 σ9 τ9 H locs hp hw => ?_)
    obtain ⟨rfl, rfl, rfl⟩ := hp
    refine lv_istore (lv' := [(4, .int r_2), (0, .ref (E.2.2 + 25)), (1, .ref (E.2.2 + 1)), (2, .int x2), (3, .int x3)]) hx hb dX2_read_37 hl (by decide) rfl (fun ls hl => ?_)
    refine lv_iload hx hb dX2_read_39 (lv_at hl 0 rfl) ?_
    refine lv_if_ge (tgt := 47) hx hb dX2_read_41 (by decide) (fun c_3 => ?_) (fun c_3 => ?_)
    · rw [if_pos c_3] at h
      refine lv_aload_n hx hb dX2_read_47 rfl (lv_at hl 2 rfl) ?_
      refine lv_iload hx hb dX2_read_48 (lv_at hl 0 rfl) ?_
      obtain ⟨r_4, σ_4, τ_4, q_4, h⟩ := bd_some h
      refine gx_cVi (As := [.int r_2]) (rest := []) S hK gx_ok hw (c_X7_isOver l (E := E) N σ_2 τ_2 r_2 q_4) cw_X2_36 t_1 cl_8 ⟨Nat.le_of_ble_eq_true rfl, Nat.le_of_ble_eq_true rfl⟩ rfl hl.1 rfl (Nat.le_of_ble_eq_true rfl) ⟨Nat.le_of_ble_eq_true rfl, Nat.le_of_ble_eq_true rfl⟩ dX2_read_50 (fun r9 σ9 τ9 H locs hp hw => ?_)
      obtain ⟨rfl, rfl, rfl⟩ := hp
      refine lv_if_eq (tgt := 61) hx hb dX2_read_53 (by decide) (fun c_5 => ?_) (fun c_5 => ?_)
      · rw [if_pos c_5] at h
        refine lv_aload_n hx hb dX2_read_61 rfl (lv_at hl 2 rfl) ?_
        refine lv_iload hx hb dX2_read_62 (lv_at hl 0 rfl) ?_
        refine lv_bipush (v := 59) hx hb dX2_read_64 (by decide) ?_
        obtain ⟨r_6, σ_6, τ_6, q_6, h⟩ := bd_some h
        refine gx_cVi (As := [.int r_2, .int 59]) (rest := []) S hK gx_ok hw (c_X7_hasSign l (E := E) N σ_4 τ_4 r_2 59 q_6) cw_X2_43 t_1 cl_8 ⟨Nat.le_of_ble_eq_true rfl, Nat.le_of_ble_eq_true rfl⟩ rfl hl.1 rfl (Nat.le_of_ble_eq_true rfl) ⟨Nat.le_of_ble_eq_true rfl, Nat.le_of_ble_eq_true rfl⟩ dX2_read_66 (fun r9 σ9 τ9 H locs hp hw => ?_)
        obtain ⟨rfl, rfl, rfl⟩ := hp
        refine lv_if_ne (tgt := 77) hx hb dX2_read_69 (by decide) (fun c_7 => ?_) (fun c_7 => ?_)
        · rw [if_neg c_7] at h
          refine lv_iload hx hb dX2_read_77 (lv_at hl 0 rfl) ?_
          refine lv_iconst (v := 1) hx hb dX2_read_79 (by decide) ?_
          refine lv_iadd hx hb dX2_read_80 ?_
          refine lv_istore_n (lv' := [(2, .int (r_2 + 1)), (4, .int r_2), (0, .ref (E.2.2 + 25)), (1, .ref (E.2.2 + 1)), (3, .int x3)]) hx hb dX2_read_81 rfl hl (by decide) rfl (fun ls hl => ?_)
          obtain ⟨v_8, e_8, h⟩ := nm_some h
          have hl : lv_has ls 5 [(2, .int v_8), (4, .int r_2), (0, .ref (E.2.2 + 25)), (1, .ref (E.2.2 + 1)), (3, .int x3)] := by rw [e_8]; exact hl
          refine lv_iinc (v := x3 + 1) (lv' := [(3, .int (x3 + 1)), (2, .int v_8), (4, .int r_2), (0, .ref (E.2.2 + 25)), (1, .ref (E.2.2 + 1))]) hx hb dX2_read_82 hl (k := 4) rfl rfl (by decide) rfl (fun ls hl => ?_)
          obtain ⟨v_9, e_9, h⟩ := nm_some h
          have hl : lv_has ls 5 [(3, .int v_9), (2, .int v_8), (4, .int r_2), (0, .ref (E.2.2 + 25)), (1, .ref (E.2.2 + 1))] := by rw [e_9]; exact hl
          refine lv_goto (tgt := 25) hx hb dX2_read_85 (by decide) ?_
          exact hrec_25 σ_6 τ_6 v_8 v_9 _ _ _ _ _ _ h hw (lv_sub hl [3, 4, 1, 0] rfl)
        · rw [if_pos c_7] at h
          refine lv_iconst (v := (-1)) hx hb dX2_read_72 (by decide) ?_
          refine lv_iload hx hb dX2_read_73 (lv_at hl 0 rfl) ?_
          refine lv_isub hx hb dX2_read_75 ?_
          obtain ⟨rfl, rfl, rfl⟩ := sm_inj h
          exact gx_ri (post := gq_p ((-1) - r_2) σ_6 τ_6) (v := (-1) - r_2) S hr hlk hw rfl dX2_read_76 ⟨rfl, rfl, rfl⟩
      · rw [if_neg c_5] at h
        refine lv_aload_n hx hb dX2_read_56 rfl (lv_at hl 1 rfl) ?_
        refine gx_get S hK hw t_25 cl_3 4 (by decide) rfl mw_246 rfl dX2_read_57 ?_
        obtain ⟨rfl, rfl, rfl⟩ := sm_inj h
        exact gx_ri (post := gq_p (σ_4 25 4) σ_4 τ_4) (v := σ_4 25 4) S hr hlk hw rfl dX2_read_60 ⟨rfl, rfl, rfl⟩
    · rw [if_neg c_3] at h
      refine lv_iload hx hb dX2_read_44 (lv_at hl 0 rfl) ?_
      obtain ⟨rfl, rfl, rfl⟩ := sm_inj h
      exact gx_ri (post := gq_p r_2 σ_2 τ_2) (v := r_2) S hr hlk hw rfl dX2_read_46 ⟨rfl, rfl, rfl⟩
set_option maxHeartbeats 4000000 in
set_option maxRecDepth 100000 in
theorem h_X2_read_25 (l : Launch) (S : CallFix P9 m9 C9 cX2_read 5 s av.toArray gx_G RX2) (hr : meth.sig.returnType = (some .int)) (hlk : meth.locks = false) (hK : gx_K E s) (N : Nat) : ∀ (n : Nat) (σ : gI) (τ : gJ) (x2 : Int32) (x3 : Int32) (r : Int32) (σ1 : gI) (τ1 : gJ), H_X2_read_25 N n σ τ x2 x3 = some (r, σ1, τ1) → ∀ (H : Heap) (locs : List Loc) (ls : Array Slot), gx_W gx_tb gx_tb.length E s σ τ H locs → lv_has ls 5 [(0, .ref (E.2.2 + 25)), (1, .ref (E.2.2 + 1)), (2, .int x2), (3, .int x3)] → W P9 l e9 (gx_rm 6) s m9 av.toArray below meth C9 H locs 0 0 (gq_Qi below av s E r σ1 τ1) (F0 m9 25 ls []) := by
  intro n
  induction n with
  | zero => intro σ τ x2 x3 r σ1 τ1 h; cases h
  | succ n ih =>
    intro σ τ x2 x3 r σ1 τ1 h H locs ls hw hl
    exact k_X2_read_25 l S hr hlk hK N (H_X2_read_25 N n) (fun σ τ x2 x3 r σ1 τ1 H locs ls h hw hl => ih σ τ x2 x3 r σ1 τ1 h H locs ls hw hl) σ τ x2 x3 h hw hl
set_option maxHeartbeats 4000000 in
set_option maxRecDepth 100000 in
theorem b_X2_read_0 (l : Launch) (S : CallFix P9 m9 C9 cX2_read 5 s av.toArray gx_G RX2) (hr : meth.sig.returnType = (some .int)) (hlk : meth.locks = false) (hK : gx_K E s) (N : Nat) (σ : gI) (τ : gJ) {r : Int32} {σ1 : gI} {τ1 : gJ} (h : B_X2_read_0 N σ τ = some (r, σ1, τ1)) {H : Heap} {locs : List Loc} {ls : Array Slot} (hw : gx_W gx_tb gx_tb.length E s σ τ H locs) (hl : lv_has ls 5 [(0, .ref (E.2.2 + 25)), (1, .ref (E.2.2 + 1))]) : W P9 l e9 (gx_rm 6) s m9 av.toArray below meth C9 H locs 0 0 (gq_Qi below av s E r σ1 τ1) (F0 m9 0 ls []) := by
  have hx := S.1
  have hb := S.2.1
  unfold B_X2_read_0 at h
  refine lv_aload_n hx hb dX2_read_0 rfl (lv_at hl 0 rfl) ?_
  refine lv_iconst (v := 0) hx hb dX2_read_1 (by decide) ?_
  refine gx_put S hK gx_ok hw t_25 cl_3 4 (by decide) rfl mw_246 rfl rfl (ty := .int) (v := 0) (by decide +kernel) rfl rfl dX2_read_2 (fun H locs hw => ?_)
  obtain ⟨σ_1, e_1, h⟩ := nm_some h
  rw [← e_1] at hw
  refine lv_aload_n hx hb dX2_read_5 rfl (lv_at hl 1 rfl) ?_
  refine lv_bipush (v := 60) hx hb dX2_read_6 (by decide) ?_
  obtain ⟨u_2, σ_2, τ_2, q_2, h⟩ := bd_some h
  refine gx_cVv (As := [.int 60]) (rest := []) S hK gx_ok hw (c_X7_showAtMost l (E := E) N σ_1 τ 60 q_2) cw_X2_30 t_1 cl_8 ⟨Nat.le_of_ble_eq_true rfl, Nat.le_of_ble_eq_true rfl⟩ rfl hl.1 rfl (Nat.le_of_ble_eq_true rfl) ⟨Nat.le_of_ble_eq_true rfl, Nat.le_of_ble_eq_true rfl⟩ dX2_read_8 (fun σ9 τ9 H locs hp hw => ?_)
  obtain ⟨rfl, rfl⟩ := hp
  refine lv_aload_n hx hb dX2_read_11 rfl (lv_at hl 1 rfl) ?_
  refine lv_iconst (v := 0) hx hb dX2_read_12 (by decide) ?_
  obtain ⟨r_3, σ_3, τ_3, q_3, h⟩ := bd_some h
  refine gx_cVi (As := [.int 0]) (rest := []) S hK gx_ok hw (c_X7_isOver l (E := E) N σ_2 τ_2 0 q_3) cw_X2_36 t_1 cl_8 ⟨Nat.le_of_ble_eq_true rfl, Nat.le_of_ble_eq_true rfl⟩ rfl hl.1 rfl (Nat.le_of_ble_eq_true rfl) ⟨Nat.le_of_ble_eq_true rfl, Nat.le_of_ble_eq_true rfl⟩ dX2_read_13 (fun r9 σ9 τ9 H locs hp hw => ?_)
  obtain ⟨rfl, rfl, rfl⟩ := hp
  refine lv_if_eq (tgt := 21) hx hb dX2_read_16 (by decide) (fun c_4 => ?_) (fun c_4 => ?_)
  · rw [if_pos c_4] at h
    refine lv_iconst (v := 0) hx hb dX2_read_21 (by decide) ?_
    refine lv_istore_n (lv' := [(2, .int 0), (0, .ref (E.2.2 + 25)), (1, .ref (E.2.2 + 1))]) hx hb dX2_read_22 rfl hl (by decide) rfl (fun ls hl => ?_)
    refine lv_iconst (v := 0) hx hb dX2_read_23 (by decide) ?_
    refine lv_istore_n (lv' := [(3, .int 0), (2, .int 0), (0, .ref (E.2.2 + 25)), (1, .ref (E.2.2 + 1))]) hx hb dX2_read_24 rfl hl (by decide) rfl (fun ls hl => ?_)
    exact h_X2_read_25 l S hr hlk hK N N σ_3 τ_3 0 0 _ _ _ h _ _ _ hw (lv_sub hl [2, 3, 1, 0] rfl)
  · rw [if_neg c_4] at h
    refine lv_iconst (v := 0) hx hb dX2_read_19 (by decide) ?_
    obtain ⟨rfl, rfl, rfl⟩ := sm_inj h
    exact gx_ri (post := gq_p 0 σ_3 τ_3) (v := 0) S hr hlk hw rfl dX2_read_20 ⟨rfl, rfl, rfl⟩
set_option maxHeartbeats 4000000 in
set_option maxRecDepth 100000 in
theorem c_X2_read (l : Launch) {E : gE} (N : Nat) (σ : gI) (τ : gJ) {r : Int32} {σ1 : gI} {τ1 : gJ} (h : B_X2_read_0 N σ τ = some (r, σ1, τ1)) : gx_Mi l yX2_read cX2_read 5 (some .int) 6 gx_tb E σ τ [.ref (E.2.2 + 25), .ref (E.2.2 + 1)] (gq_p r σ1 τ1) := by
  refine gx_bi (by decide +kernel) (Nat.le_of_ble_eq_true rfl) ?_
  intro P9 e9 s m9 below meth C9 S hr hlk hK hw ls hl
  have hl : lv_has ls 5 [(0, .ref (E.2.2 + 25)), (1, .ref (E.2.2 + 1))] := hl
  exact b_X2_read_0 l S hr hlk hK N σ τ h hw hl
/-! X7_cut -/
def B_X7_cut_0 (N : Nat) (σ : gI) (τ : gJ) (x1 : Int32) : Option (Int32 × gI × gJ) := if x1 < 0 then (some (0, σ, τ)) else (if x1 ≤ σ 1 2 then (nm (up2 σ 1 2 x1) fun σ_3 => some (1, σ_3, τ)) else (some (0, σ, τ)))
set_option maxHeartbeats 4000000 in
set_option maxRecDepth 100000 in
theorem b_X7_cut_0 (l : Launch) (S : CallFix P9 m9 C9 cX7_cut 2 s av.toArray gx_G RX7) (hr : meth.sig.returnType = (some .boolean)) (hlk : meth.locks = false) (hK : gx_K E s) (N : Nat) (σ : gI) (τ : gJ) (x1 : Int32) {r : Int32} {σ1 : gI} {τ1 : gJ} (h : B_X7_cut_0 N σ τ x1 = some (r, σ1, τ1)) {H : Heap} {locs : List Loc} {ls : Array Slot} (hw : gx_W gx_tb gx_tb.length E s σ τ H locs) (hl : lv_has ls 2 [(0, .ref (E.2.2 + 1)), (1, .int x1)]) : W P9 l e9 (gx_rm 0) s m9 av.toArray below meth C9 H locs 0 0 (gq_Qi below av s E r σ1 τ1) (F0 m9 0 ls []) := by
  have hx := S.1
  have hb := S.2.1
  unfold B_X7_cut_0 at h
  refine lv_iload_n hx hb dX7_cut_0 rfl (lv_at hl 1 rfl) ?_
  refine lv_if_lt (tgt := 12) hx hb dX7_cut_1 (by decide) (fun c_1 => ?_) (fun c_1 => ?_)
  · rw [if_pos c_1] at h
    refine lv_iconst (v := 0) hx hb dX7_cut_12 (by decide) ?_
    obtain ⟨rfl, rfl, rfl⟩ := sm_inj h
    exact gx_ri (post := gq_p 0 σ τ) (v := 0) S hr hlk hw rfl dX7_cut_13 ⟨rfl, rfl, rfl⟩
  · rw [if_neg c_1] at h
    refine lv_iload_n hx hb dX7_cut_4 rfl (lv_at hl 1 rfl) ?_
    refine lv_aload_n hx hb dX7_cut_5 rfl (lv_at hl 0 rfl) ?_
    refine gx_get S hK hw t_1 cl_8 2 (by decide) rfl mw_131 rfl dX7_cut_6 ?_
    refine lv_icmp_le (tgt := 14) hx hb dX7_cut_9 (by decide) (fun c_2 => ?_) (fun c_2 => ?_)
    · rw [if_pos c_2] at h
      refine lv_aload_n hx hb dX7_cut_14 rfl (lv_at hl 0 rfl) ?_
      refine lv_iload_n hx hb dX7_cut_15 rfl (lv_at hl 1 rfl) ?_
      refine gx_put S hK gx_ok hw t_1 cl_8 2 (by decide) rfl mw_131 rfl rfl (ty := .int) (v := x1) (by decide +kernel) rfl rfl dX7_cut_16 (fun H locs hw => ?_)
      obtain ⟨σ_3, e_3, h⟩ := nm_some h
      rw [← e_3] at hw
      refine lv_iconst (v := 1) hx hb dX7_cut_19 (by decide) ?_
      obtain ⟨rfl, rfl, rfl⟩ := sm_inj h
      exact gx_ri (post := gq_p 1 σ_3 τ) (v := 1) S hr hlk hw rfl dX7_cut_20 ⟨rfl, rfl, rfl⟩
    · rw [if_neg c_2] at h
      refine lv_iconst (v := 0) hx hb dX7_cut_12 (by decide) ?_
      obtain ⟨rfl, rfl, rfl⟩ := sm_inj h
      exact gx_ri (post := gq_p 0 σ τ) (v := 0) S hr hlk hw rfl dX7_cut_13 ⟨rfl, rfl, rfl⟩
set_option maxHeartbeats 4000000 in
set_option maxRecDepth 100000 in
theorem c_X7_cut (l : Launch) {E : gE} (N : Nat) (σ : gI) (τ : gJ) (x1 : Int32) {r : Int32} {σ1 : gI} {τ1 : gJ} (h : B_X7_cut_0 N σ τ x1 = some (r, σ1, τ1)) : gx_Mi l yX7_cut cX7_cut 2 (some .boolean) 0 gx_tb E σ τ [.ref (E.2.2 + 1), .int x1] (gq_p r σ1 τ1) := by
  refine gx_bi (by decide +kernel) (Nat.le_of_ble_eq_true rfl) ?_
  intro P9 e9 s m9 below meth C9 S hr hlk hK hw ls hl
  have hl : lv_has ls 2 [(0, .ref (E.2.2 + 1)), (1, .int x1)] := hl
  exact b_X7_cut_0 l S hr hlk hK N σ τ x1 h hw hl
/-! X2_has -/
def B_X2_has_0 (N : Nat) (σ : gI) (τ : gJ) (x1 : Int32) : Option (Int32 × gI × gJ) := if x1 < 0 then (some (0, σ, τ)) else (if σ 25 4 ≤ x1 then (some (0, σ, τ)) else (if 20 ≤ x1 then (some (0, σ, τ)) else (some (1, σ, τ))))
set_option maxHeartbeats 4000000 in
set_option maxRecDepth 100000 in
theorem b_X2_has_0 (l : Launch) (S : CallFix P9 m9 C9 cX2_has 2 s av.toArray gx_G RX2) (hr : meth.sig.returnType = (some .boolean)) (hlk : meth.locks = false) (hK : gx_K E s) (N : Nat) (σ : gI) (τ : gJ) (x1 : Int32) {r : Int32} {σ1 : gI} {τ1 : gJ} (h : B_X2_has_0 N σ τ x1 = some (r, σ1, τ1)) {H : Heap} {locs : List Loc} {ls : Array Slot} (hw : gx_W gx_tb gx_tb.length E s σ τ H locs) (hl : lv_has ls 2 [(0, .ref (E.2.2 + 25)), (1, .int x1)]) : W P9 l e9 (gx_rm 0) s m9 av.toArray below meth C9 H locs 0 0 (gq_Qi below av s E r σ1 τ1) (F0 m9 0 ls []) := by
  have hx := S.1
  have hb := S.2.1
  unfold B_X2_has_0 at h
  refine lv_iload_n hx hb dX2_has_0 rfl (lv_at hl 1 rfl) ?_
  refine lv_if_lt (tgt := 22) hx hb dX2_has_1 (by decide) (fun c_1 => ?_) (fun c_1 => ?_)
  · rw [if_pos c_1] at h
    refine lv_iconst (v := 0) hx hb dX2_has_22 (by decide) ?_
    obtain ⟨rfl, rfl, rfl⟩ := sm_inj h
    exact gx_ri (post := gq_p 0 σ τ) (v := 0) S hr hlk hw rfl dX2_has_23 ⟨rfl, rfl, rfl⟩
  · rw [if_neg c_1] at h
    refine lv_iload_n hx hb dX2_has_4 rfl (lv_at hl 1 rfl) ?_
    refine lv_aload_n hx hb dX2_has_5 rfl (lv_at hl 0 rfl) ?_
    refine gx_get S hK hw t_25 cl_3 4 (by decide) rfl mw_246 rfl dX2_has_6 ?_
    refine lv_icmp_ge (tgt := 22) hx hb dX2_has_9 (by decide) (fun c_2 => ?_) (fun c_2 => ?_)
    · rw [if_pos c_2] at h
      refine lv_iconst (v := 0) hx hb dX2_has_22 (by decide) ?_
      obtain ⟨rfl, rfl, rfl⟩ := sm_inj h
      exact gx_ri (post := gq_p 0 σ τ) (v := 0) S hr hlk hw rfl dX2_has_23 ⟨rfl, rfl, rfl⟩
    · rw [if_neg c_2] at h
      refine lv_iload_n hx hb dX2_has_12 rfl (lv_at hl 1 rfl) ?_
      refine lv_bipush (v := 20) hx hb dX2_has_13 (by decide) ?_
      refine lv_icmp_ge (tgt := 22) hx hb dX2_has_15 (by decide) (fun c_3 => ?_) (fun c_3 => ?_)
      · rw [if_pos c_3] at h
        refine lv_iconst (v := 0) hx hb dX2_has_22 (by decide) ?_
        obtain ⟨rfl, rfl, rfl⟩ := sm_inj h
        exact gx_ri (post := gq_p 0 σ τ) (v := 0) S hr hlk hw rfl dX2_has_23 ⟨rfl, rfl, rfl⟩
      · rw [if_neg c_3] at h
        refine lv_iconst (v := 1) hx hb dX2_has_18 (by decide) ?_
        refine lv_goto (tgt := 23) hx hb dX2_has_19 (by decide) ?_
        obtain ⟨rfl, rfl, rfl⟩ := sm_inj h
        exact gx_ri (post := gq_p 1 σ τ) (v := 1) S hr hlk hw rfl dX2_has_23 ⟨rfl, rfl, rfl⟩
set_option maxHeartbeats 4000000 in
set_option maxRecDepth 100000 in
theorem c_X2_has (l : Launch) {E : gE} (N : Nat) (σ : gI) (τ : gJ) (x1 : Int32) {r : Int32} {σ1 : gI} {τ1 : gJ} (h : B_X2_has_0 N σ τ x1 = some (r, σ1, τ1)) : gx_Mi l yX2_has cX2_has 2 (some .boolean) 0 gx_tb E σ τ [.ref (E.2.2 + 25), .int x1] (gq_p r σ1 τ1) := by
  refine gx_bi (by decide +kernel) (Nat.le_of_ble_eq_true rfl) ?_
  intro P9 e9 s m9 below meth C9 S hr hlk hK hw ls hl
  have hl : lv_has ls 2 [(0, .ref (E.2.2 + 25)), (1, .int x1)] := hl
  exact b_X2_has_0 l S hr hlk hK N σ τ x1 h hw hl
/-! X2_firstOf -/
def B_X2_firstOf_0 (N : Nat) (σ : gI) (τ : gJ) (x1 : Int32) : Option (Int32 × gI × gJ) := bd (B_X2_has_0 N σ τ x1) fun r_1 σ_1 τ_1 => if r_1 = 0 then (some (0, σ_1, τ_1)) else (ck x1 20 fun j_3 => some (σ_1 27 j_3, σ_1, τ_1))
set_option maxHeartbeats 4000000 in
set_option maxRecDepth 100000 in
theorem b_X2_firstOf_0 (l : Launch) (S : CallFix P9 m9 C9 cX2_firstOf 2 s av.toArray gx_G RX2) (hr : meth.sig.returnType = (some .int)) (hlk : meth.locks = false) (hK : gx_K E s) (N : Nat) (σ : gI) (τ : gJ) (x1 : Int32) {r : Int32} {σ1 : gI} {τ1 : gJ} (h : B_X2_firstOf_0 N σ τ x1 = some (r, σ1, τ1)) {H : Heap} {locs : List Loc} {ls : Array Slot} (hw : gx_W gx_tb gx_tb.length E s σ τ H locs) (hl : lv_has ls 2 [(0, .ref (E.2.2 + 25)), (1, .int x1)]) : W P9 l e9 (gx_rm 1) s m9 av.toArray below meth C9 H locs 0 0 (gq_Qi below av s E r σ1 τ1) (F0 m9 0 ls []) := by
  have hx := S.1
  have hb := S.2.1
  unfold B_X2_firstOf_0 at h
  refine lv_aload_n hx hb dX2_firstOf_0 rfl (lv_at hl 0 rfl) ?_
  refine lv_iload_n hx hb dX2_firstOf_1 rfl (lv_at hl 1 rfl) ?_
  obtain ⟨r_1, σ_1, τ_1, q_1, h⟩ := bd_some h
  refine gx_cVi (As := [.int x1]) (rest := []) S hK gx_ok hw (c_X2_has l (E := E) N σ τ x1 q_1) cw_X2_26 t_25 cl_3 ⟨Nat.le_of_ble_eq_true rfl, Nat.le_of_ble_eq_true rfl⟩ rfl hl.1 rfl (Nat.le_of_ble_eq_true rfl) ⟨Nat.le_of_ble_eq_true rfl, Nat.le_of_ble_eq_true rfl⟩ dX2_firstOf_2 (fun r9 σ9 τ9 H locs hp hw => ?_)
  obtain ⟨rfl, rfl, rfl⟩ := hp
  refine lv_if_eq (tgt := 17) hx hb dX2_firstOf_5 (by decide) (fun c_2 => ?_) (fun c_2 => ?_)
  · rw [if_pos c_2] at h
    refine lv_iconst (v := 0) hx hb dX2_firstOf_17 (by decide) ?_
    obtain ⟨rfl, rfl, rfl⟩ := sm_inj h
    exact gx_ri (post := gq_p 0 σ_1 τ_1) (v := 0) S hr hlk hw rfl dX2_firstOf_18 ⟨rfl, rfl, rfl⟩
  · rw [if_neg c_2] at h
    refine lv_aload_n hx hb dX2_firstOf_8 rfl (lv_at hl 0 rfl) ?_
    refine gx_getr (j := 27) S hK hw t_25 cl_3 1 (by decide) rfl mw_243 rfl dX2_firstOf_9 ?_
    refine lv_iload_n hx hb dX2_firstOf_12 rfl (lv_at hl 1 rfl) ?_
    obtain ⟨j_3, hj_3, hi_3, h⟩ := ck_some h
    refine gx_iald S hK hw t_27 j_3 hj_3 hi_3 dX2_firstOf_13 ?_
    refine lv_goto (tgt := 18) hx hb dX2_firstOf_14 (by decide) ?_
    obtain ⟨rfl, rfl, rfl⟩ := sm_inj h
    exact gx_ri (post := gq_p (σ_1 27 j_3) σ_1 τ_1) (v := σ_1 27 j_3) S hr hlk hw rfl dX2_firstOf_18 ⟨rfl, rfl, rfl⟩
set_option maxHeartbeats 4000000 in
set_option maxRecDepth 100000 in
theorem c_X2_firstOf (l : Launch) {E : gE} (N : Nat) (σ : gI) (τ : gJ) (x1 : Int32) {r : Int32} {σ1 : gI} {τ1 : gJ} (h : B_X2_firstOf_0 N σ τ x1 = some (r, σ1, τ1)) : gx_Mi l yX2_firstOf cX2_firstOf 2 (some .int) 1 gx_tb E σ τ [.ref (E.2.2 + 25), .int x1] (gq_p r σ1 τ1) := by
  refine gx_bi (by decide +kernel) (Nat.le_of_ble_eq_true rfl) ?_
  intro P9 e9 s m9 below meth C9 S hr hlk hK hw ls hl
  have hl : lv_has ls 2 [(0, .ref (E.2.2 + 25)), (1, .int x1)] := hl
  exact b_X2_firstOf_0 l S hr hlk hK N σ τ x1 h hw hl
/-! X2_secondOf -/
def B_X2_secondOf_0 (N : Nat) (σ : gI) (τ : gJ) (x1 : Int32) : Option (Int32 × gI × gJ) := bd (B_X2_has_0 N σ τ x1) fun r_1 σ_1 τ_1 => if r_1 = 0 then (some (0, σ_1, τ_1)) else (ck x1 20 fun j_3 => some (σ_1 28 j_3, σ_1, τ_1))
set_option maxHeartbeats 4000000 in
set_option maxRecDepth 100000 in
theorem b_X2_secondOf_0 (l : Launch) (S : CallFix P9 m9 C9 cX2_secondOf 2 s av.toArray gx_G RX2) (hr : meth.sig.returnType = (some .int)) (hlk : meth.locks = false) (hK : gx_K E s) (N : Nat) (σ : gI) (τ : gJ) (x1 : Int32) {r : Int32} {σ1 : gI} {τ1 : gJ} (h : B_X2_secondOf_0 N σ τ x1 = some (r, σ1, τ1)) {H : Heap} {locs : List Loc} {ls : Array Slot} (hw : gx_W gx_tb gx_tb.length E s σ τ H locs) (hl : lv_has ls 2 [(0, .ref (E.2.2 + 25)), (1, .int x1)]) : W P9 l e9 (gx_rm 1) s m9 av.toArray below meth C9 H locs 0 0 (gq_Qi below av s E r σ1 τ1) (F0 m9 0 ls []) := by
  have hx := S.1
  have hb := S.2.1
  unfold B_X2_secondOf_0 at h
  refine lv_aload_n hx hb dX2_secondOf_0 rfl (lv_at hl 0 rfl) ?_
  refine lv_iload_n hx hb dX2_secondOf_1 rfl (lv_at hl 1 rfl) ?_
  obtain ⟨r_1, σ_1, τ_1, q_1, h⟩ := bd_some h
  refine gx_cVi (As := [.int x1]) (rest := []) S hK gx_ok hw (c_X2_has l (E := E) N σ τ x1 q_1) cw_X2_26 t_25 cl_3 ⟨Nat.le_of_ble_eq_true rfl, Nat.le_of_ble_eq_true rfl⟩ rfl hl.1 rfl (Nat.le_of_ble_eq_true rfl) ⟨Nat.le_of_ble_eq_true rfl, Nat.le_of_ble_eq_true rfl⟩ dX2_secondOf_2 (fun r9 σ9 τ9 H locs hp hw => ?_)
  obtain ⟨rfl, rfl, rfl⟩ := hp
  refine lv_if_eq (tgt := 17) hx hb dX2_secondOf_5 (by decide) (fun c_2 => ?_) (fun c_2 => ?_)
  · rw [if_pos c_2] at h
    refine lv_iconst (v := 0) hx hb dX2_secondOf_17 (by decide) ?_
    obtain ⟨rfl, rfl, rfl⟩ := sm_inj h
    exact gx_ri (post := gq_p 0 σ_1 τ_1) (v := 0) S hr hlk hw rfl dX2_secondOf_18 ⟨rfl, rfl, rfl⟩
  · rw [if_neg c_2] at h
    refine lv_aload_n hx hb dX2_secondOf_8 rfl (lv_at hl 0 rfl) ?_
    refine gx_getr (j := 28) S hK hw t_25 cl_3 2 (by decide) rfl mw_244 rfl dX2_secondOf_9 ?_
    refine lv_iload_n hx hb dX2_secondOf_12 rfl (lv_at hl 1 rfl) ?_
    obtain ⟨j_3, hj_3, hi_3, h⟩ := ck_some h
    refine gx_iald S hK hw t_28 j_3 hj_3 hi_3 dX2_secondOf_13 ?_
    refine lv_goto (tgt := 18) hx hb dX2_secondOf_14 (by decide) ?_
    obtain ⟨rfl, rfl, rfl⟩ := sm_inj h
    exact gx_ri (post := gq_p (σ_1 28 j_3) σ_1 τ_1) (v := σ_1 28 j_3) S hr hlk hw rfl dX2_secondOf_18 ⟨rfl, rfl, rfl⟩
set_option maxHeartbeats 4000000 in
set_option maxRecDepth 100000 in
theorem c_X2_secondOf (l : Launch) {E : gE} (N : Nat) (σ : gI) (τ : gJ) (x1 : Int32) {r : Int32} {σ1 : gI} {τ1 : gJ} (h : B_X2_secondOf_0 N σ τ x1 = some (r, σ1, τ1)) : gx_Mi l yX2_secondOf cX2_secondOf 2 (some .int) 1 gx_tb E σ τ [.ref (E.2.2 + 25), .int x1] (gq_p r σ1 τ1) := by
  refine gx_bi (by decide +kernel) (Nat.le_of_ble_eq_true rfl) ?_
  intro P9 e9 s m9 below meth C9 S hr hlk hK hw ls hl
  have hl : lv_has ls 2 [(0, .ref (E.2.2 + 25)), (1, .int x1)] := hl
  exact b_X2_secondOf_0 l S hr hlk hK N σ τ x1 h hw hl
/-! X2_kindOf -/
def B_X2_kindOf_0 (N : Nat) (σ : gI) (τ : gJ) (x1 : Int32) : Option (Int32 × gI × gJ) := bd (B_X2_has_0 N σ τ x1) fun r_1 σ_1 τ_1 => if r_1 = 0 then (some (2, σ_1, τ_1)) else (ck x1 20 fun j_3 => some (σ_1 26 j_3, σ_1, τ_1))
set_option maxHeartbeats 4000000 in
set_option maxRecDepth 100000 in
theorem b_X2_kindOf_0 (l : Launch) (S : CallFix P9 m9 C9 cX2_kindOf 2 s av.toArray gx_G RX2) (hr : meth.sig.returnType = (some .int)) (hlk : meth.locks = false) (hK : gx_K E s) (N : Nat) (σ : gI) (τ : gJ) (x1 : Int32) {r : Int32} {σ1 : gI} {τ1 : gJ} (h : B_X2_kindOf_0 N σ τ x1 = some (r, σ1, τ1)) {H : Heap} {locs : List Loc} {ls : Array Slot} (hw : gx_W gx_tb gx_tb.length E s σ τ H locs) (hl : lv_has ls 2 [(0, .ref (E.2.2 + 25)), (1, .int x1)]) : W P9 l e9 (gx_rm 1) s m9 av.toArray below meth C9 H locs 0 0 (gq_Qi below av s E r σ1 τ1) (F0 m9 0 ls []) := by
  have hx := S.1
  have hb := S.2.1
  unfold B_X2_kindOf_0 at h
  refine lv_aload_n hx hb dX2_kindOf_0 rfl (lv_at hl 0 rfl) ?_
  refine lv_iload_n hx hb dX2_kindOf_1 rfl (lv_at hl 1 rfl) ?_
  obtain ⟨r_1, σ_1, τ_1, q_1, h⟩ := bd_some h
  refine gx_cVi (As := [.int x1]) (rest := []) S hK gx_ok hw (c_X2_has l (E := E) N σ τ x1 q_1) cw_X2_26 t_25 cl_3 ⟨Nat.le_of_ble_eq_true rfl, Nat.le_of_ble_eq_true rfl⟩ rfl hl.1 rfl (Nat.le_of_ble_eq_true rfl) ⟨Nat.le_of_ble_eq_true rfl, Nat.le_of_ble_eq_true rfl⟩ dX2_kindOf_2 (fun r9 σ9 τ9 H locs hp hw => ?_)
  obtain ⟨rfl, rfl, rfl⟩ := hp
  refine lv_if_eq (tgt := 17) hx hb dX2_kindOf_5 (by decide) (fun c_2 => ?_) (fun c_2 => ?_)
  · rw [if_pos c_2] at h
    refine lv_iconst (v := 2) hx hb dX2_kindOf_17 (by decide) ?_
    obtain ⟨rfl, rfl, rfl⟩ := sm_inj h
    exact gx_ri (post := gq_p 2 σ_1 τ_1) (v := 2) S hr hlk hw rfl dX2_kindOf_18 ⟨rfl, rfl, rfl⟩
  · rw [if_neg c_2] at h
    refine lv_aload_n hx hb dX2_kindOf_8 rfl (lv_at hl 0 rfl) ?_
    refine gx_getr (j := 26) S hK hw t_25 cl_3 0 (by decide) rfl mw_242 rfl dX2_kindOf_9 ?_
    refine lv_iload_n hx hb dX2_kindOf_12 rfl (lv_at hl 1 rfl) ?_
    obtain ⟨j_3, hj_3, hi_3, h⟩ := ck_some h
    refine gx_iald S hK hw t_26 j_3 hj_3 hi_3 dX2_kindOf_13 ?_
    refine lv_goto (tgt := 18) hx hb dX2_kindOf_14 (by decide) ?_
    obtain ⟨rfl, rfl, rfl⟩ := sm_inj h
    exact gx_ri (post := gq_p (σ_1 26 j_3) σ_1 τ_1) (v := σ_1 26 j_3) S hr hlk hw rfl dX2_kindOf_18 ⟨rfl, rfl, rfl⟩
set_option maxHeartbeats 4000000 in
set_option maxRecDepth 100000 in
theorem c_X2_kindOf (l : Launch) {E : gE} (N : Nat) (σ : gI) (τ : gJ) (x1 : Int32) {r : Int32} {σ1 : gI} {τ1 : gJ} (h : B_X2_kindOf_0 N σ τ x1 = some (r, σ1, τ1)) : gx_Mi l yX2_kindOf cX2_kindOf 2 (some .int) 1 gx_tb E σ τ [.ref (E.2.2 + 25), .int x1] (gq_p r σ1 τ1) := by
  refine gx_bi (by decide +kernel) (Nat.le_of_ble_eq_true rfl) ?_
  intro P9 e9 s m9 below meth C9 S hr hlk hK hw ls hl
  have hl : lv_has ls 2 [(0, .ref (E.2.2 + 25)), (1, .int x1)] := hl
  exact b_X2_kindOf_0 l S hr hlk hK N σ τ x1 h hw hl
/-! X2_thirdOf -/
def B_X2_thirdOf_0 (N : Nat) (σ : gI) (τ : gJ) (x1 : Int32) : Option (Int32 × gI × gJ) := bd (B_X2_has_0 N σ τ x1) fun r_1 σ_1 τ_1 => if r_1 = 0 then (some (0, σ_1, τ_1)) else (ck x1 20 fun j_3 => some (σ_1 29 j_3, σ_1, τ_1))
set_option maxHeartbeats 4000000 in
set_option maxRecDepth 100000 in
theorem b_X2_thirdOf_0 (l : Launch) (S : CallFix P9 m9 C9 cX2_thirdOf 2 s av.toArray gx_G RX2) (hr : meth.sig.returnType = (some .int)) (hlk : meth.locks = false) (hK : gx_K E s) (N : Nat) (σ : gI) (τ : gJ) (x1 : Int32) {r : Int32} {σ1 : gI} {τ1 : gJ} (h : B_X2_thirdOf_0 N σ τ x1 = some (r, σ1, τ1)) {H : Heap} {locs : List Loc} {ls : Array Slot} (hw : gx_W gx_tb gx_tb.length E s σ τ H locs) (hl : lv_has ls 2 [(0, .ref (E.2.2 + 25)), (1, .int x1)]) : W P9 l e9 (gx_rm 1) s m9 av.toArray below meth C9 H locs 0 0 (gq_Qi below av s E r σ1 τ1) (F0 m9 0 ls []) := by
  have hx := S.1
  have hb := S.2.1
  unfold B_X2_thirdOf_0 at h
  refine lv_aload_n hx hb dX2_thirdOf_0 rfl (lv_at hl 0 rfl) ?_
  refine lv_iload_n hx hb dX2_thirdOf_1 rfl (lv_at hl 1 rfl) ?_
  obtain ⟨r_1, σ_1, τ_1, q_1, h⟩ := bd_some h
  refine gx_cVi (As := [.int x1]) (rest := []) S hK gx_ok hw (c_X2_has l (E := E) N σ τ x1 q_1) cw_X2_26 t_25 cl_3 ⟨Nat.le_of_ble_eq_true rfl, Nat.le_of_ble_eq_true rfl⟩ rfl hl.1 rfl (Nat.le_of_ble_eq_true rfl) ⟨Nat.le_of_ble_eq_true rfl, Nat.le_of_ble_eq_true rfl⟩ dX2_thirdOf_2 (fun r9 σ9 τ9 H locs hp hw => ?_)
  obtain ⟨rfl, rfl, rfl⟩ := hp
  refine lv_if_eq (tgt := 17) hx hb dX2_thirdOf_5 (by decide) (fun c_2 => ?_) (fun c_2 => ?_)
  · rw [if_pos c_2] at h
    refine lv_iconst (v := 0) hx hb dX2_thirdOf_17 (by decide) ?_
    obtain ⟨rfl, rfl, rfl⟩ := sm_inj h
    exact gx_ri (post := gq_p 0 σ_1 τ_1) (v := 0) S hr hlk hw rfl dX2_thirdOf_18 ⟨rfl, rfl, rfl⟩
  · rw [if_neg c_2] at h
    refine lv_aload_n hx hb dX2_thirdOf_8 rfl (lv_at hl 0 rfl) ?_
    refine gx_getr (j := 29) S hK hw t_25 cl_3 3 (by decide) rfl mw_245 rfl dX2_thirdOf_9 ?_
    refine lv_iload_n hx hb dX2_thirdOf_12 rfl (lv_at hl 1 rfl) ?_
    obtain ⟨j_3, hj_3, hi_3, h⟩ := ck_some h
    refine gx_iald S hK hw t_29 j_3 hj_3 hi_3 dX2_thirdOf_13 ?_
    refine lv_goto (tgt := 18) hx hb dX2_thirdOf_14 (by decide) ?_
    obtain ⟨rfl, rfl, rfl⟩ := sm_inj h
    exact gx_ri (post := gq_p (σ_1 29 j_3) σ_1 τ_1) (v := σ_1 29 j_3) S hr hlk hw rfl dX2_thirdOf_18 ⟨rfl, rfl, rfl⟩
set_option maxHeartbeats 4000000 in
set_option maxRecDepth 100000 in
theorem c_X2_thirdOf (l : Launch) {E : gE} (N : Nat) (σ : gI) (τ : gJ) (x1 : Int32) {r : Int32} {σ1 : gI} {τ1 : gJ} (h : B_X2_thirdOf_0 N σ τ x1 = some (r, σ1, τ1)) : gx_Mi l yX2_thirdOf cX2_thirdOf 2 (some .int) 1 gx_tb E σ τ [.ref (E.2.2 + 25), .int x1] (gq_p r σ1 τ1) := by
  refine gx_bi (by decide +kernel) (Nat.le_of_ble_eq_true rfl) ?_
  intro P9 e9 s m9 below meth C9 S hr hlk hK hw ls hl
  have hl : lv_has ls 2 [(0, .ref (E.2.2 + 25)), (1, .int x1)] := hl
  exact b_X2_thirdOf_0 l S hr hlk hK N σ τ x1 h hw hl
/-! X8_isFork -/
def B_X8_isFork_0 (N : Nat) (σ : gI) (τ : gJ) (x1 : Int32) : Option (Int32 × gI × gJ) := if x1 < 0 then (some (0, σ, τ)) else (if 12 ≤ x1 then (some (0, σ, τ)) else (if ((σ 3 7) >>> (x1 &&& 31)) &&& 1 = 0 then (some (0, σ, τ)) else (some (1, σ, τ))))
set_option maxHeartbeats 4000000 in
set_option maxRecDepth 100000 in
theorem b_X8_isFork_0 (l : Launch) (S : CallFix P9 m9 C9 cX8_isFork 2 s av.toArray gx_G RX8) (hr : meth.sig.returnType = (some .boolean)) (hlk : meth.locks = false) (hK : gx_K E s) (N : Nat) (σ : gI) (τ : gJ) (x1 : Int32) {r : Int32} {σ1 : gI} {τ1 : gJ} (h : B_X8_isFork_0 N σ τ x1 = some (r, σ1, τ1)) {H : Heap} {locs : List Loc} {ls : Array Slot} (hw : gx_W gx_tb gx_tb.length E s σ τ H locs) (hl : lv_has ls 2 [(0, .ref (E.2.2 + 3)), (1, .int x1)]) : W P9 l e9 (gx_rm 0) s m9 av.toArray below meth C9 H locs 0 0 (gq_Qi below av s E r σ1 τ1) (F0 m9 0 ls []) := by
  have hx := S.1
  have hb := S.2.1
  unfold B_X8_isFork_0 at h
  refine lv_iload_n hx hb dX8_isFork_0 rfl (lv_at hl 1 rfl) ?_
  refine lv_if_lt (tgt := 25) hx hb dX8_isFork_1 (by decide) (fun c_1 => ?_) (fun c_1 => ?_)
  · rw [if_pos c_1] at h
    refine lv_iconst (v := 0) hx hb dX8_isFork_25 (by decide) ?_
    obtain ⟨rfl, rfl, rfl⟩ := sm_inj h
    exact gx_ri (post := gq_p 0 σ τ) (v := 0) S hr hlk hw rfl dX8_isFork_26 ⟨rfl, rfl, rfl⟩
  · rw [if_neg c_1] at h
    refine lv_iload_n hx hb dX8_isFork_4 rfl (lv_at hl 1 rfl) ?_
    refine lv_bipush (v := 12) hx hb dX8_isFork_5 (by decide) ?_
    refine lv_icmp_ge (tgt := 25) hx hb dX8_isFork_7 (by decide) (fun c_2 => ?_) (fun c_2 => ?_)
    · rw [if_pos c_2] at h
      refine lv_iconst (v := 0) hx hb dX8_isFork_25 (by decide) ?_
      obtain ⟨rfl, rfl, rfl⟩ := sm_inj h
      exact gx_ri (post := gq_p 0 σ τ) (v := 0) S hr hlk hw rfl dX8_isFork_26 ⟨rfl, rfl, rfl⟩
    · rw [if_neg c_2] at h
      refine lv_aload_n hx hb dX8_isFork_10 rfl (lv_at hl 0 rfl) ?_
      refine gx_get S hK hw t_3 cl_9 7 (by decide) rfl mw_156 rfl dX8_isFork_11 ?_
      refine lv_iload_n hx hb dX8_isFork_14 rfl (lv_at hl 1 rfl) ?_
      refine lv_ishr hx hb dX8_isFork_15 ?_
      refine lv_iconst (v := 1) hx hb dX8_isFork_16 (by decide) ?_
      refine lv_iand hx hb dX8_isFork_17 ?_
      refine lv_if_eq (tgt := 25) hx hb dX8_isFork_18 (by decide) (fun c_3 => ?_) (fun c_3 => ?_)
      · rw [if_pos c_3] at h
        refine lv_iconst (v := 0) hx hb dX8_isFork_25 (by decide) ?_
        obtain ⟨rfl, rfl, rfl⟩ := sm_inj h
        exact gx_ri (post := gq_p 0 σ τ) (v := 0) S hr hlk hw rfl dX8_isFork_26 ⟨rfl, rfl, rfl⟩
      · rw [if_neg c_3] at h
        refine lv_iconst (v := 1) hx hb dX8_isFork_21 (by decide) ?_
        refine lv_goto (tgt := 26) hx hb dX8_isFork_22 (by decide) ?_
        obtain ⟨rfl, rfl, rfl⟩ := sm_inj h
        exact gx_ri (post := gq_p 1 σ τ) (v := 1) S hr hlk hw rfl dX8_isFork_26 ⟨rfl, rfl, rfl⟩
set_option maxHeartbeats 4000000 in
set_option maxRecDepth 100000 in
theorem c_X8_isFork (l : Launch) {E : gE} (N : Nat) (σ : gI) (τ : gJ) (x1 : Int32) {r : Int32} {σ1 : gI} {τ1 : gJ} (h : B_X8_isFork_0 N σ τ x1 = some (r, σ1, τ1)) : gx_Mi l yX8_isFork cX8_isFork 2 (some .boolean) 0 gx_tb E σ τ [.ref (E.2.2 + 3), .int x1] (gq_p r σ1 τ1) := by
  refine gx_bi (by decide +kernel) (Nat.le_of_ble_eq_true rfl) ?_
  intro P9 e9 s m9 below meth C9 S hr hlk hK hw ls hl
  have hl : lv_has ls 2 [(0, .ref (E.2.2 + 3)), (1, .int x1)] := hl
  exact b_X8_isFork_0 l S hr hlk hK N σ τ x1 h hw hl
/-! X6_enrich -/
def B_X6_enrich_0 (N : Nat) (c : Nat) (σ : gI) (τ : gJ) (x1 : Int32) (x2 : Int32) : Option (Int32 × gI × gJ) := if x1 < 0 then (some ((-1), σ, τ)) else (if x1 < 6 then (ck x1 6 fun j_3 => nm (up2 σ (c + 3) j_3 (imin 9 ((σ (c + 3) j_3) + x2))) fun σ_4 => some (σ_4 (c + 3) j_3, σ_4, τ)) else (some ((-1), σ, τ)))
set_option maxHeartbeats 4000000 in
set_option maxRecDepth 100000 in
theorem b_X6_enrich_0 (l : Launch) (S : CallFix P9 m9 C9 cX6_enrich 3 s av.toArray gx_G RX6) (hr : meth.sig.returnType = (some .int)) (hlk : meth.locks = false) (hK : gx_K E s) (N : Nat) (c : Nat) (tc : gx_isS c) (σ : gI) (τ : gJ) (x1 : Int32) (x2 : Int32) {r : Int32} {σ1 : gI} {τ1 : gJ} (h : B_X6_enrich_0 N c σ τ x1 x2 = some (r, σ1, τ1)) {H : Heap} {locs : List Loc} {ls : Array Slot} (hw : gx_W gx_tb gx_tb.length E s σ τ H locs) (hl : lv_has ls 3 [(0, .ref (E.2.2 + c)), (1, .int x1), (2, .int x2)]) : W P9 l e9 (gx_rm 1) s m9 av.toArray below meth C9 H locs 0 0 (gq_Qi below av s E r σ1 τ1) (F0 m9 0 ls []) := by
  have hx := S.1
  have hb := S.2.1
  unfold B_X6_enrich_0 at h
  refine lv_iload_n hx hb dX6_enrich_0 rfl (lv_at hl 1 rfl) ?_
  refine lv_if_lt (tgt := 10) hx hb dX6_enrich_1 (by decide) (fun c_1 => ?_) (fun c_1 => ?_)
  · rw [if_pos c_1] at h
    refine lv_iconst (v := (-1)) hx hb dX6_enrich_10 (by decide) ?_
    obtain ⟨rfl, rfl, rfl⟩ := sm_inj h
    exact gx_ri (post := gq_p (-1) σ τ) (v := (-1)) S hr hlk hw rfl dX6_enrich_11 ⟨rfl, rfl, rfl⟩
  · rw [if_neg c_1] at h
    refine lv_iload_n hx hb dX6_enrich_4 rfl (lv_at hl 1 rfl) ?_
    refine lv_bipush (v := 6) hx hb dX6_enrich_5 (by decide) ?_
    refine lv_icmp_lt (tgt := 12) hx hb dX6_enrich_7 (by decide) (fun c_2 => ?_) (fun c_2 => ?_)
    · rw [if_pos c_2] at h
      refine lv_aload_n hx hb dX6_enrich_12 rfl (lv_at hl 0 rfl) ?_
      refine gx_getr (j := c + 3) S hK hw tc.1 cl_7 2 (by decide) rfl mw_266 rfl dX6_enrich_13 ?_
      refine lv_iload_n hx hb dX6_enrich_16 rfl (lv_at hl 1 rfl) ?_
      refine lv_bipush (v := 9) hx hb dX6_enrich_17 (by decide) ?_
      refine lv_aload_n hx hb dX6_enrich_19 rfl (lv_at hl 0 rfl) ?_
      refine gx_getr (j := c + 3) S hK hw tc.1 cl_7 2 (by decide) rfl mw_266 rfl dX6_enrich_20 ?_
      refine lv_iload_n hx hb dX6_enrich_23 rfl (lv_at hl 1 rfl) ?_
      obtain ⟨j_3, hj_3, hi_3, h⟩ := ck_some h
      refine gx_iald S hK hw (iS_3 tc) j_3 hj_3 hi_3 dX6_enrich_24 ?_
      refine lv_iload_n hx hb dX6_enrich_25 rfl (lv_at hl 2 rfl) ?_
      refine lv_iadd hx hb dX6_enrich_26 ?_
      refine gx_min (w := imin 9 ((σ (c + 3) j_3) + x2)) S hl.1 mw_832 mw_529 mw_102 mw_530 ⟨Nat.le_of_ble_eq_true rfl, Nat.le_of_ble_eq_true rfl⟩ ⟨Nat.le_of_ble_eq_true rfl, Nat.le_of_ble_eq_true rfl⟩ dX6_enrich_27 rfl ?_
      refine gx_iast S hK gx_ok hw (iS_3 tc) j_3 hj_3 hi_3 dX6_enrich_30 (fun H locs hw => ?_)
      obtain ⟨σ_4, e_4, h⟩ := nm_some h
      rw [← e_4] at hw
      refine lv_aload_n hx hb dX6_enrich_31 rfl (lv_at hl 0 rfl) ?_
      refine gx_getr (j := c + 3) S hK hw tc.1 cl_7 2 (by decide) rfl mw_266 rfl dX6_enrich_32 ?_
      refine lv_iload_n hx hb dX6_enrich_35 rfl (lv_at hl 1 rfl) ?_
      refine gx_iald S hK hw (iS_3 tc) j_3 hj_3 hi_3 dX6_enrich_36 ?_
      obtain ⟨rfl, rfl, rfl⟩ := sm_inj h
      exact gx_ri (post := gq_p (σ_4 (c + 3) j_3) σ_4 τ) (v := σ_4 (c + 3) j_3) S hr hlk hw rfl dX6_enrich_37 ⟨rfl, rfl, rfl⟩
    · rw [if_neg c_2] at h
      refine lv_iconst (v := (-1)) hx hb dX6_enrich_10 (by decide) ?_
      obtain ⟨rfl, rfl, rfl⟩ := sm_inj h
      exact gx_ri (post := gq_p (-1) σ τ) (v := (-1)) S hr hlk hw rfl dX6_enrich_11 ⟨rfl, rfl, rfl⟩
set_option maxHeartbeats 4000000 in
set_option maxRecDepth 100000 in
theorem c_X6_enrich (l : Launch) {E : gE} (N : Nat) (c : Nat) (tc : gx_isS c) (σ : gI) (τ : gJ) (x1 : Int32) (x2 : Int32) {r : Int32} {σ1 : gI} {τ1 : gJ} (h : B_X6_enrich_0 N c σ τ x1 x2 = some (r, σ1, τ1)) : gx_Mi l yX6_enrich cX6_enrich 3 (some .int) 1 gx_tb E σ τ [.ref (E.2.2 + c), .int x1, .int x2] (gq_p r σ1 τ1) := by
  refine gx_bi (by decide +kernel) (Nat.le_of_ble_eq_true rfl) ?_
  intro P9 e9 s m9 below meth C9 S hr hlk hK hw ls hl
  have hl : lv_has ls 3 [(0, .ref (E.2.2 + c)), (1, .int x1), (2, .int x2)] := hl
  exact b_X6_enrich_0 l S hr hlk hK N c tc σ τ x1 x2 h hw hl
/-! X11_passMinutes -/
def C_X11_passMinutes_2 (N : Nat) (rec_2 : gI → gJ → Int32 → Int32 → Option (Unit × gI × gJ)) (σ : gI) (τ : gJ) (x1 : Int32) (x2 : Int32) : Option (Unit × gI × gJ) := if x1 ≤ x2 then (some ((), σ, τ)) else (bd (B_X1_pass_0 N 30 σ τ) fun _ σ_2 τ_2 => nm (x2 + 1) fun v_3 => rec_2 σ_2 τ_2 x1 v_3)
def H_X11_passMinutes_2 (N : Nat) : Nat → gI → gJ → Int32 → Int32 → Option (Unit × gI × gJ) := itn (fun rec_2 => C_X11_passMinutes_2 N rec_2) (fun _ _ _ _ => none)
def B_X11_passMinutes_0 (N : Nat) (σ : gI) (τ : gJ) (x1 : Int32) : Option (Unit × gI × gJ) := H_X11_passMinutes_2 N N σ τ x1 0
set_option maxHeartbeats 4000000 in
set_option maxRecDepth 100000 in
theorem k_X11_passMinutes_2 (l : Launch) (S : CallFix P9 m9 C9 cX11_passMinutes 3 s av.toArray gx_G RX11) (hr : meth.sig.returnType = none) (hlk : meth.locks = false) (hK : gx_K E s) (N : Nat) (rec_2 : gI → gJ → Int32 → Int32 → Option (Unit × gI × gJ)) (hrec_2 : ∀ (σ : gI) (τ : gJ) (x1 : Int32) (x2 : Int32) (r : Unit) (σ1 : gI) (τ1 : gJ) (H : Heap) (locs : List Loc) (ls : Array Slot), rec_2 σ τ x1 x2 = some (r, σ1, τ1) → gx_W gx_tb gx_tb.length E s σ τ H locs → lv_has ls 3 [(0, .ref (E.2.2 + 0)), (1, .int x1), (2, .int x2)] → W P9 l e9 (gx_rm 4) s m9 av.toArray below meth C9 H locs 0 0 (gq_Qv below av s E σ1 τ1) (F0 m9 2 ls [])) (σ : gI) (τ : gJ) (x1 : Int32) (x2 : Int32) {r : Unit} {σ1 : gI} {τ1 : gJ} (h : C_X11_passMinutes_2 N rec_2 σ τ x1 x2 = some (r, σ1, τ1)) {H : Heap} {locs : List Loc} {ls : Array Slot} (hw : gx_W gx_tb gx_tb.length E s σ τ H locs) (hl : lv_has ls 3 [(0, .ref (E.2.2 + 0)), (1, .int x1), (2, .int x2)]) : W P9 l e9 (gx_rm 4) s m9 av.toArray below meth C9 H locs 0 0 (gq_Qv below av s E σ1 τ1) (F0 m9 2 ls []) := by
  have hx := S.1
  have hb := S.2.1
  unfold C_X11_passMinutes_2 at h
  refine lv_iload_n hx hb dX11_passMinutes_2 rfl (lv_at hl 2 rfl) ?_
  refine lv_iload_n hx hb dX11_passMinutes_3 rfl (lv_at hl 1 rfl) ?_
  refine lv_icmp_ge (tgt := 24) hx hb dX11_passMinutes_4 (by decide) (fun c_1 => ?_) (fun c_1 => ?_)
  · rw [if_pos c_1] at h
    obtain ⟨-, rfl, rfl⟩ := sm_inj h
    exact gx_rv (post := gq_v σ τ) S hr hlk hw dX11_passMinutes_24 ⟨rfl, rfl⟩
  · rw [if_neg c_1] at h
    refine lv_aload_n hx hb dX11_passMinutes_7 rfl (lv_at hl 0 rfl) ?_
    refine gx_getr (j := 158) S hK hw t_0 cl_12 14 (by decide) rfl mw_461 rfl dX11_passMinutes_8 ?_
    refine lv_aload_n hx hb dX11_passMinutes_11 rfl (lv_at hl 0 rfl) ?_
    refine gx_getr (j := 30) S hK hw t_0 cl_12 7 (by decide) rfl mw_454 rfl dX11_passMinutes_12 ?_
    obtain ⟨u_2, σ_2, τ_2, q_2, h⟩ := bd_some h
    refine gx_cVv (As := [.ref (E.2.2 + 30)]) (rest := []) S hK gx_ok hw (c_X1_pass l (E := E) N 30 is_30 σ τ q_2) cw_X11_266 t_158 cl_2 ⟨Nat.le_of_ble_eq_true rfl, Nat.le_of_ble_eq_true rfl⟩ rfl hl.1 rfl (Nat.le_of_ble_eq_true rfl) ⟨Nat.le_of_ble_eq_true rfl, Nat.le_of_ble_eq_true rfl⟩ dX11_passMinutes_15 (fun σ9 τ9 H locs hp hw => ?_)
    obtain ⟨rfl, rfl⟩ := hp
    refine lv_iinc (v := x2 + 1) (lv' := [(2, .int (x2 + 1)), (0, .ref (E.2.2 + 0)), (1, .int x1)]) hx hb dX11_passMinutes_18 hl (k := 2) rfl rfl (by decide) rfl (fun ls hl => ?_)
    obtain ⟨v_3, e_3, h⟩ := nm_some h
    have hl : lv_has ls 3 [(2, .int v_3), (0, .ref (E.2.2 + 0)), (1, .int x1)] := by rw [e_3]; exact hl
    refine lv_goto (tgt := 2) hx hb dX11_passMinutes_21 (by decide) ?_
    exact hrec_2 σ_2 τ_2 x1 v_3 _ _ _ _ _ _ h hw (lv_sub hl [1, 2, 0] rfl)
set_option maxHeartbeats 4000000 in
set_option maxRecDepth 100000 in
theorem h_X11_passMinutes_2 (l : Launch) (S : CallFix P9 m9 C9 cX11_passMinutes 3 s av.toArray gx_G RX11) (hr : meth.sig.returnType = none) (hlk : meth.locks = false) (hK : gx_K E s) (N : Nat) : ∀ (n : Nat) (σ : gI) (τ : gJ) (x1 : Int32) (x2 : Int32) (r : Unit) (σ1 : gI) (τ1 : gJ), H_X11_passMinutes_2 N n σ τ x1 x2 = some (r, σ1, τ1) → ∀ (H : Heap) (locs : List Loc) (ls : Array Slot), gx_W gx_tb gx_tb.length E s σ τ H locs → lv_has ls 3 [(0, .ref (E.2.2 + 0)), (1, .int x1), (2, .int x2)] → W P9 l e9 (gx_rm 4) s m9 av.toArray below meth C9 H locs 0 0 (gq_Qv below av s E σ1 τ1) (F0 m9 2 ls []) := by
  intro n
  induction n with
  | zero => intro σ τ x1 x2 r σ1 τ1 h; cases h
  | succ n ih =>
    intro σ τ x1 x2 r σ1 τ1 h H locs ls hw hl
    exact k_X11_passMinutes_2 l S hr hlk hK N (H_X11_passMinutes_2 N n) (fun σ τ x1 x2 r σ1 τ1 H locs ls h hw hl => ih σ τ x1 x2 r σ1 τ1 h H locs ls hw hl) σ τ x1 x2 h hw hl
set_option maxHeartbeats 4000000 in
set_option maxRecDepth 100000 in
theorem b_X11_passMinutes_0 (l : Launch) (S : CallFix P9 m9 C9 cX11_passMinutes 3 s av.toArray gx_G RX11) (hr : meth.sig.returnType = none) (hlk : meth.locks = false) (hK : gx_K E s) (N : Nat) (σ : gI) (τ : gJ) (x1 : Int32) {r : Unit} {σ1 : gI} {τ1 : gJ} (h : B_X11_passMinutes_0 N σ τ x1 = some (r, σ1, τ1)) {H : Heap} {locs : List Loc} {ls : Array Slot} (hw : gx_W gx_tb gx_tb.length E s σ τ H locs) (hl : lv_has ls 3 [(0, .ref (E.2.2 + 0)), (1, .int x1)]) : W P9 l e9 (gx_rm 4) s m9 av.toArray below meth C9 H locs 0 0 (gq_Qv below av s E σ1 τ1) (F0 m9 0 ls []) := by
  have hx := S.1
  have hb := S.2.1
  unfold B_X11_passMinutes_0 at h
  refine lv_iconst (v := 0) hx hb dX11_passMinutes_0 (by decide) ?_
  refine lv_istore_n (lv' := [(2, .int 0), (0, .ref (E.2.2 + 0)), (1, .int x1)]) hx hb dX11_passMinutes_1 rfl hl (by decide) rfl (fun ls hl => ?_)
  exact h_X11_passMinutes_2 l S hr hlk hK N N σ τ x1 0 _ _ _ h _ _ _ hw (lv_sub hl [1, 2, 0] rfl)
set_option maxHeartbeats 4000000 in
set_option maxRecDepth 100000 in
theorem c_X11_passMinutes (l : Launch) {E : gE} (N : Nat) (σ : gI) (τ : gJ) (x1 : Int32) {r : Unit} {σ1 : gI} {τ1 : gJ} (h : B_X11_passMinutes_0 N σ τ x1 = some (r, σ1, τ1)) : gx_Mv l yX11_passMinutes cX11_passMinutes 3 none 4 gx_tb E σ τ [.ref (E.2.2 + 0), .int x1] (gq_v σ1 τ1) := by
  refine gx_bv (by decide +kernel) (Nat.le_of_ble_eq_true rfl) ?_
  intro P9 e9 s m9 below meth C9 S hr hlk hK hw ls hl
  have hl : lv_has ls 3 [(0, .ref (E.2.2 + 0)), (1, .int x1)] := hl
  exact b_X11_passMinutes_0 l S hr hlk hK N σ τ x1 h hw hl
/-! X11_perform -/
def B_X11_perform_0 (N : Nat) (σ : gI) (τ : gJ) (x1 : Int32) : Option (Int32 × gI × gJ) := bd (B_X2_firstOf_0 N σ τ x1) fun r_1 σ_1 τ_1 => bd (B_X2_secondOf_0 N σ_1 τ_1 x1) fun r_2 σ_2 τ_2 => bd (B_X2_kindOf_0 N σ_2 τ_2 x1) fun r_3 σ_3 τ_3 => if r_3 = 0 then (bd (B_X8_has_0 N σ_3 τ_3 r_1) fun r_5 σ_5 τ_5 => if r_5 = 0 then (some ((-1), σ_5, τ_5)) else (if σ_5 30 6 < 6 then (bd (B_X2_thirdOf_0 N σ_5 τ_5 x1) fun r_8 σ_8 τ_8 => bd (B_X8_isKitchen_0 N σ_8 τ_8 r_1) fun r_9 σ_9 τ_9 => bd (B_X6_add_0 N 30 σ_9 τ_9 r_1 r_2 r_8 0 r_9) fun r_10 σ_10 τ_10 => some (0, σ_10, τ_10)) else (some ((-1), σ_5, τ_5)))) else if r_3 = 1 then (bd (B_X8_isFork_0 N σ_3 τ_3 r_1) fun r_12 σ_12 τ_12 => if r_12 = 0 then (some ((-1), σ_12, τ_12)) else (nm (up2 σ_12 30 7 ((σ_12 30 7) ^^^ (1 <<< (r_1 &&& 31)))) fun σ_14 => some (0, σ_14, τ_12))) else if r_3 = 2 then (nm (σ_3 30 9) fun v_16 => bd (B_X11_passMinutes_0 N σ_3 τ_3 r_1) fun _ σ_17 τ_17 => bd (B_J6_bitCount_0f7a4_0 N σ_17 τ_17 ((σ_17 30 9) &&& (v_16 ^^^ (-1)))) fun r_18 σ_18 τ_18 => some (r_18, σ_18, τ_18)) else if r_3 = 3 then (bd (B_X6_isOnWay_0 N 30 σ_3 τ_3 r_1) fun r_20 σ_20 τ_20 => if r_20 = 0 then (some ((-1), σ_20, τ_20)) else (bd (B_X6_enrich_0 N 30 σ_20 τ_20 r_1 r_2) fun r_22 σ_22 τ_22 => some (0, σ_22, τ_22))) else (nm (σ_3 30 9) fun v_23 => bd (B_X11_passMinutes_0 N σ_3 τ_3 r_1) fun _ σ_24 τ_24 => bd (B_J6_bitCount_0f7a4_0 N σ_24 τ_24 ((σ_24 30 9) &&& (v_23 ^^^ (-1)))) fun r_25 σ_25 τ_25 => some (r_25, σ_25, τ_25))
set_option maxHeartbeats 4000000 in
set_option maxRecDepth 100000 in
theorem b_X11_perform_0 (l : Launch) (S : CallFix P9 m9 C9 cX11_perform 5 s av.toArray gx_G RX11) (hr : meth.sig.returnType = (some .int)) (hlk : meth.locks = false) (hK : gx_K E s) (N : Nat) (σ : gI) (τ : gJ) (x1 : Int32) {r : Int32} {σ1 : gI} {τ1 : gJ} (h : B_X11_perform_0 N σ τ x1 = some (r, σ1, τ1)) {H : Heap} {locs : List Loc} {ls : Array Slot} (hw : gx_W gx_tb gx_tb.length E s σ τ H locs) (hl : lv_has ls 5 [(0, .ref (E.2.2 + 0)), (1, .int x1)]) : W P9 l e9 (gx_rm 5) s m9 av.toArray below meth C9 H locs 0 0 (gq_Qi below av s E r σ1 τ1) (F0 m9 0 ls []) := by
  have hx := S.1
  have hb := S.2.1
  unfold B_X11_perform_0 at h
  refine lv_aload_n hx hb dX11_perform_0 rfl (lv_at hl 0 rfl) ?_
  refine gx_getr (j := 25) S hK hw t_0 cl_12 6 (by decide) rfl mw_453 rfl dX11_perform_1 ?_
  refine lv_iload_n hx hb dX11_perform_4 rfl (lv_at hl 1 rfl) ?_
  obtain ⟨r_1, σ_1, τ_1, q_1, h⟩ := bd_some h
  refine gx_cVi (As := [.int x1]) (rest := []) S hK gx_ok hw (c_X2_firstOf l (E := E) N σ τ x1 q_1) cw_X11_275 t_25 cl_3 ⟨Nat.le_of_ble_eq_true rfl, Nat.le_of_ble_eq_true rfl⟩ rfl hl.1 rfl (Nat.le_of_ble_eq_true rfl) ⟨Nat.le_of_ble_eq_true rfl, Nat.le_of_ble_eq_true rfl⟩ dX11_perform_5 (fun r9 σ9 τ9 H locs hp hw => ?_)
  obtain ⟨rfl, rfl, rfl⟩ := hp
  refine lv_istore_n (lv' := [(2, .int r_1), (0, .ref (E.2.2 + 0)), (1, .int x1)]) hx hb dX11_perform_8 rfl hl (by decide) rfl (fun ls hl => ?_)
  refine lv_aload_n hx hb dX11_perform_9 rfl (lv_at hl 1 rfl) ?_
  refine gx_getr (j := 25) S hK hw t_0 cl_12 6 (by decide) rfl mw_453 rfl dX11_perform_10 ?_
  refine lv_iload_n hx hb dX11_perform_13 rfl (lv_at hl 2 rfl) ?_
  obtain ⟨r_2, σ_2, τ_2, q_2, h⟩ := bd_some h
  refine gx_cVi (As := [.int x1]) (rest := []) S hK gx_ok hw (c_X2_secondOf l (E := E) N σ_1 τ_1 x1 q_2) cw_X11_278 t_25 cl_3 ⟨Nat.le_of_ble_eq_true rfl, Nat.le_of_ble_eq_true rfl⟩ rfl hl.1 rfl (Nat.le_of_ble_eq_true rfl) ⟨Nat.le_of_ble_eq_true rfl, Nat.le_of_ble_eq_true rfl⟩ dX11_perform_14 (fun r9 σ9 τ9 H locs hp hw => ?_)
  obtain ⟨rfl, rfl, rfl⟩ := hp
  refine lv_istore_n (lv' := [(3, .int r_2), (2, .int r_1), (0, .ref (E.2.2 + 0)), (1, .int x1)]) hx hb dX11_perform_17 rfl hl (by decide) rfl (fun ls hl => ?_)
  refine lv_aload_n hx hb dX11_perform_18 rfl (lv_at hl 2 rfl) ?_
  refine gx_getr (j := 25) S hK hw t_0 cl_12 6 (by decide) rfl mw_453 rfl dX11_perform_19 ?_
  refine lv_iload_n hx hb dX11_perform_22 rfl (lv_at hl 3 rfl) ?_
  obtain ⟨r_3, σ_3, τ_3, q_3, h⟩ := bd_some h
  refine gx_cVi (As := [.int x1]) (rest := []) S hK gx_ok hw (c_X2_kindOf l (E := E) N σ_2 τ_2 x1 q_3) cw_X11_279 t_25 cl_3 ⟨Nat.le_of_ble_eq_true rfl, Nat.le_of_ble_eq_true rfl⟩ rfl hl.1 rfl (Nat.le_of_ble_eq_true rfl) ⟨Nat.le_of_ble_eq_true rfl, Nat.le_of_ble_eq_true rfl⟩ dX11_perform_23 (fun r9 σ9 τ9 H locs hp hw => ?_)
  obtain ⟨rfl, rfl, rfl⟩ := hp
  by_cases c_4 : r_3 = 0
  · rw [if_pos c_4] at h
    refine gx_top (v := 0) c_4 ?_
    refine lv_tableIn (tgt := 56) hx hb dX11_perform_26 (by decide) (by decide) rfl (by decide) ?_
    refine lv_aload_n hx hb dX11_perform_56 rfl (lv_at hl 2 rfl) ?_
    refine gx_getr (j := 3) S hK hw t_0 cl_12 1 (by decide) rfl mw_448 rfl dX11_perform_57 ?_
    refine lv_iload_n hx hb dX11_perform_60 rfl (lv_at hl 1 rfl) ?_
    obtain ⟨r_5, σ_5, τ_5, q_5, h⟩ := bd_some h
    refine gx_cVi (As := [.int r_1]) (rest := []) S hK gx_ok hw (c_X8_has l (E := E) N σ_3 τ_3 r_1 q_5) cw_X11_137 t_3 cl_9 ⟨Nat.le_of_ble_eq_true rfl, Nat.le_of_ble_eq_true rfl⟩ rfl hl.1 rfl (Nat.le_of_ble_eq_true rfl) ⟨Nat.le_of_ble_eq_true rfl, Nat.le_of_ble_eq_true rfl⟩ dX11_perform_61 (fun r9 σ9 τ9 H locs hp hw => ?_)
    obtain ⟨rfl, rfl, rfl⟩ := hp
    refine lv_if_eq (tgt := 79) hx hb dX11_perform_64 (by decide) (fun c_6 => ?_) (fun c_6 => ?_)
    · rw [if_pos c_6] at h
      refine lv_iconst (v := (-1)) hx hb dX11_perform_79 (by decide) ?_
      obtain ⟨rfl, rfl, rfl⟩ := sm_inj h
      exact gx_ri (post := gq_p (-1) σ_5 τ_5) (v := (-1)) S hr hlk hw rfl dX11_perform_80 ⟨rfl, rfl, rfl⟩
    · rw [if_neg c_6] at h
      refine lv_aload_n hx hb dX11_perform_67 rfl (lv_at hl 2 rfl) ?_
      refine gx_getr (j := 30) S hK hw t_0 cl_12 7 (by decide) rfl mw_454 rfl dX11_perform_68 ?_
      refine gx_get S hK hw t_30 cl_7 6 (by decide) rfl mw_272 rfl dX11_perform_71 ?_
      refine lv_bipush (v := 6) hx hb dX11_perform_74 (by decide) ?_
      refine lv_icmp_lt (tgt := 81) hx hb dX11_perform_76 (by decide) (fun c_7 => ?_) (fun c_7 => ?_)
      · rw [if_pos c_7] at h
        refine lv_aload_n hx hb dX11_perform_81 rfl (lv_at hl 2 rfl) ?_
        refine gx_getr (j := 30) S hK hw t_0 cl_12 7 (by decide) rfl mw_454 rfl dX11_perform_82 ?_
        refine lv_iload_n hx hb dX11_perform_85 rfl (lv_at hl 1 rfl) ?_
        refine lv_iload_n hx hb dX11_perform_86 rfl (lv_at hl 0 rfl) ?_
        refine lv_aload_n hx hb dX11_perform_87 rfl (lv_at hl 2 rfl) ?_
        refine gx_getr (j := 25) S hK hw t_0 cl_12 6 (by decide) rfl mw_453 rfl dX11_perform_88 ?_
        refine lv_iload_n hx hb dX11_perform_91 rfl (lv_at hl 3 rfl) ?_
        obtain ⟨r_8, σ_8, τ_8, q_8, h⟩ := bd_some h
        refine gx_cVi (As := [.int x1]) (rest := [.int r_2, .int r_1, .ref (E.2.2 + 30)]) S hK gx_ok hw (c_X2_thirdOf l (E := E) N σ_5 τ_5 x1 q_8) cw_X11_280 t_25 cl_3 ⟨Nat.le_of_ble_eq_true rfl, Nat.le_of_ble_eq_true rfl⟩ rfl hl.1 rfl (Nat.le_of_ble_eq_true rfl) ⟨Nat.le_of_ble_eq_true rfl, Nat.le_of_ble_eq_true rfl⟩ dX11_perform_92 (fun r9 σ9 τ9 H locs hp hw => ?_)
        obtain ⟨rfl, rfl, rfl⟩ := hp
        refine lv_iconst (v := 0) hx hb dX11_perform_95 (by decide) ?_
        refine lv_aload_n hx hb dX11_perform_96 rfl (lv_at hl 2 rfl) ?_
        refine gx_getr (j := 3) S hK hw t_0 cl_12 1 (by decide) rfl mw_448 rfl dX11_perform_97 ?_
        refine lv_iload_n hx hb dX11_perform_100 rfl (lv_at hl 1 rfl) ?_
        obtain ⟨r_9, σ_9, τ_9, q_9, h⟩ := bd_some h
        refine gx_cVi (As := [.int r_1]) (rest := [.int 0, .int r_8, .int r_2, .int r_1, .ref (E.2.2 + 30)]) S hK gx_ok hw (c_X8_isKitchen l (E := E) N σ_8 τ_8 r_1 q_9) cw_X11_234 t_3 cl_9 ⟨Nat.le_of_ble_eq_true rfl, Nat.le_of_ble_eq_true rfl⟩ rfl hl.1 rfl (Nat.le_of_ble_eq_true rfl) ⟨Nat.le_of_ble_eq_true rfl, Nat.le_of_ble_eq_true rfl⟩ dX11_perform_101 (fun r9 σ9 τ9 H locs hp hw => ?_)
        obtain ⟨rfl, rfl, rfl⟩ := hp
        obtain ⟨r_10, σ_10, τ_10, q_10, h⟩ := bd_some h
        refine gx_cVi (As := [.int r_1, .int r_2, .int r_8, .int 0, .int r_9]) (rest := []) S hK gx_ok hw (c_X6_add l (E := E) N 30 is_30 σ_9 τ_9 r_1 r_2 r_8 0 r_9 q_10) cw_X11_237 t_30 cl_7 ⟨Nat.le_of_ble_eq_true rfl, Nat.le_of_ble_eq_true rfl⟩ rfl hl.1 rfl (Nat.le_of_ble_eq_true rfl) ⟨Nat.le_of_ble_eq_true rfl, Nat.le_of_ble_eq_true rfl⟩ dX11_perform_104 (fun r9 σ9 τ9 H locs hp hw => ?_)
        obtain ⟨rfl, rfl, rfl⟩ := hp
        refine lv_pop hx hb dX11_perform_107 rfl ?_
        refine lv_iconst (v := 0) hx hb dX11_perform_108 (by decide) ?_
        obtain ⟨rfl, rfl, rfl⟩ := sm_inj h
        exact gx_ri (post := gq_p 0 σ_10 τ_10) (v := 0) S hr hlk hw rfl dX11_perform_109 ⟨rfl, rfl, rfl⟩
      · rw [if_neg c_7] at h
        refine lv_iconst (v := (-1)) hx hb dX11_perform_79 (by decide) ?_
        obtain ⟨rfl, rfl, rfl⟩ := sm_inj h
        exact gx_ri (post := gq_p (-1) σ_5 τ_5) (v := (-1)) S hr hlk hw rfl dX11_perform_80 ⟨rfl, rfl, rfl⟩
  rw [if_neg c_4] at h
  by_cases c_11 : r_3 = 1
  · rw [if_pos c_11] at h
    refine gx_top (v := 1) c_11 ?_
    refine lv_tableIn (tgt := 110) hx hb dX11_perform_26 (by decide) (by decide) rfl (by decide) ?_
    refine lv_aload_n hx hb dX11_perform_110 rfl (lv_at hl 2 rfl) ?_
    refine gx_getr (j := 3) S hK hw t_0 cl_12 1 (by decide) rfl mw_448 rfl dX11_perform_111 ?_
    refine lv_iload_n hx hb dX11_perform_114 rfl (lv_at hl 1 rfl) ?_
    obtain ⟨r_12, σ_12, τ_12, q_12, h⟩ := bd_some h
    refine gx_cVi (As := [.int r_1]) (rest := []) S hK gx_ok hw (c_X8_isFork l (E := E) N σ_3 τ_3 r_1 q_12) cw_X11_201 t_3 cl_9 ⟨Nat.le_of_ble_eq_true rfl, Nat.le_of_ble_eq_true rfl⟩ rfl hl.1 rfl (Nat.le_of_ble_eq_true rfl) ⟨Nat.le_of_ble_eq_true rfl, Nat.le_of_ble_eq_true rfl⟩ dX11_perform_115 (fun r9 σ9 τ9 H locs hp hw => ?_)
    obtain ⟨rfl, rfl, rfl⟩ := hp
    refine lv_if_ne (tgt := 123) hx hb dX11_perform_118 (by decide) (fun c_13 => ?_) (fun c_13 => ?_)
    · rw [if_neg c_13] at h
      refine lv_aload_n hx hb dX11_perform_123 rfl (lv_at hl 2 rfl) ?_
      refine gx_getr (j := 30) S hK hw t_0 cl_12 7 (by decide) rfl mw_454 rfl dX11_perform_124 ?_
      refine lv_dup hx hb dX11_perform_127 rfl ?_
      refine gx_get S hK hw t_30 cl_7 7 (by decide) rfl mw_276 rfl dX11_perform_128 ?_
      refine lv_iconst (v := 1) hx hb dX11_perform_131 (by decide) ?_
      refine lv_iload_n hx hb dX11_perform_132 rfl (lv_at hl 1 rfl) ?_
      refine lv_ishl hx hb dX11_perform_133 ?_
      refine lv_ixor hx hb dX11_perform_134 ?_
      refine gx_put S hK gx_ok hw t_30 cl_7 7 (by decide) rfl mw_276 rfl rfl (ty := .int) (v := (σ_12 30 7) ^^^ (1 <<< (r_1 &&& 31))) (by decide +kernel) rfl rfl dX11_perform_135 (fun H locs hw => ?_)
      obtain ⟨σ_14, e_14, h⟩ := nm_some h
      rw [← e_14] at hw
      refine lv_iconst (v := 0) hx hb dX11_perform_138 (by decide) ?_
      obtain ⟨rfl, rfl, rfl⟩ := sm_inj h
      exact gx_ri (post := gq_p 0 σ_14 τ_12) (v := 0) S hr hlk hw rfl dX11_perform_139 ⟨rfl, rfl, rfl⟩
    · rw [if_pos c_13] at h
      refine lv_iconst (v := (-1)) hx hb dX11_perform_121 (by decide) ?_
      obtain ⟨rfl, rfl, rfl⟩ := sm_inj h
      exact gx_ri (post := gq_p (-1) σ_12 τ_12) (v := (-1)) S hr hlk hw rfl dX11_perform_122 ⟨rfl, rfl, rfl⟩
  rw [if_neg c_11] at h
  by_cases c_15 : r_3 = 2
  · rw [if_pos c_15] at h
    refine gx_top (v := 2) c_15 ?_
    refine lv_tableIn (tgt := 165) hx hb dX11_perform_26 (by decide) (by decide) rfl (by decide) ?_
    refine lv_aload_n hx hb dX11_perform_165 rfl (lv_at hl 2 rfl) ?_
    refine gx_getr (j := 30) S hK hw t_0 cl_12 7 (by decide) rfl mw_454 rfl dX11_perform_166 ?_
    refine gx_get S hK hw t_30 cl_7 9 (by decide) rfl mw_283 rfl dX11_perform_169 ?_
    refine lv_istore (lv' := [(4, .int (σ_3 30 9)), (3, .int r_2), (2, .int r_1), (0, .ref (E.2.2 + 0)), (1, .int x1)]) hx hb dX11_perform_172 hl (by decide) rfl (fun ls hl => ?_)
    obtain ⟨v_16, e_16, h⟩ := nm_some h
    have hl : lv_has ls 5 [(4, .int v_16), (3, .int r_2), (2, .int r_1), (0, .ref (E.2.2 + 0)), (1, .int x1)] := by rw [e_16]; exact hl
    refine lv_aload_n hx hb dX11_perform_174 rfl (lv_at hl 3 rfl) ?_
    refine lv_iload_n hx hb dX11_perform_175 rfl (lv_at hl 2 rfl) ?_
    obtain ⟨u_17, σ_17, τ_17, q_17, h⟩ := bd_some h
    refine gx_cVv (As := [.int r_1]) (rest := []) S hK gx_ok hw (c_X11_passMinutes l (E := E) N σ_3 τ_3 r_1 q_17) cw_X11_253 t_0 cl_12 ⟨Nat.le_of_ble_eq_true rfl, Nat.le_of_ble_eq_true rfl⟩ rfl hl.1 rfl (Nat.le_of_ble_eq_true rfl) ⟨Nat.le_of_ble_eq_true rfl, Nat.le_of_ble_eq_true rfl⟩ dX11_perform_176 (fun σ9 τ9 H locs hp hw => ?_)
    obtain ⟨rfl, rfl⟩ := hp
    refine lv_aload_n hx hb dX11_perform_179 rfl (lv_at hl 3 rfl) ?_
    refine gx_getr (j := 30) S hK hw t_0 cl_12 7 (by decide) rfl mw_454 rfl dX11_perform_180 ?_
    refine gx_get S hK hw t_30 cl_7 9 (by decide) rfl mw_283 rfl dX11_perform_183 ?_
    refine lv_iload hx hb dX11_perform_186 (lv_at hl 0 rfl) ?_
    refine lv_iconst (v := (-1)) hx hb dX11_perform_188 (by decide) ?_
    refine lv_ixor hx hb dX11_perform_189 ?_
    refine lv_iand hx hb dX11_perform_190 ?_
    obtain ⟨r_18, σ_18, τ_18, q_18, h⟩ := bd_some h
    refine gx_cSi (As := [.int ((σ_17 30 9) &&& (v_16 ^^^ (-1)))]) (rest := []) S hK gx_ok hw (c_J6_bitCount_0f7a4 l (E := E) N σ_17 τ_17 ((σ_17 30 9) &&& (v_16 ^^^ (-1))) q_18) cw_X11_261 ⟨Nat.le_of_ble_eq_true rfl, Nat.le_of_ble_eq_true rfl⟩ rfl hl.1 rfl (Nat.le_of_ble_eq_true rfl) ⟨Nat.le_of_ble_eq_true rfl, Nat.le_of_ble_eq_true rfl⟩ dX11_perform_191 (fun r9 σ9 τ9 H locs hp hw => ?_)
    obtain ⟨rfl, rfl, rfl⟩ := hp
    obtain ⟨rfl, rfl, rfl⟩ := sm_inj h
    exact gx_ri (post := gq_p r_18 σ_18 τ_18) (v := r_18) S hr hlk hw rfl dX11_perform_194 ⟨rfl, rfl, rfl⟩
  rw [if_neg c_15] at h
  by_cases c_19 : r_3 = 3
  · rw [if_pos c_19] at h
    refine gx_top (v := 3) c_19 ?_
    refine lv_tableIn (tgt := 140) hx hb dX11_perform_26 (by decide) (by decide) rfl (by decide) ?_
    refine lv_aload_n hx hb dX11_perform_140 rfl (lv_at hl 2 rfl) ?_
    refine gx_getr (j := 30) S hK hw t_0 cl_12 7 (by decide) rfl mw_454 rfl dX11_perform_141 ?_
    refine lv_iload_n hx hb dX11_perform_144 rfl (lv_at hl 1 rfl) ?_
    obtain ⟨r_20, σ_20, τ_20, q_20, h⟩ := bd_some h
    refine gx_cVi (As := [.int r_1]) (rest := []) S hK gx_ok hw (c_X6_isOnWay l (E := E) N 30 is_30 σ_3 τ_3 r_1 q_20) cw_X11_241 t_30 cl_7 ⟨Nat.le_of_ble_eq_true rfl, Nat.le_of_ble_eq_true rfl⟩ rfl hl.1 rfl (Nat.le_of_ble_eq_true rfl) ⟨Nat.le_of_ble_eq_true rfl, Nat.le_of_ble_eq_true rfl⟩ dX11_perform_145 (fun r9 σ9 τ9 H locs hp hw => ?_)
    obtain ⟨rfl, rfl, rfl⟩ := hp
    refine lv_if_ne (tgt := 153) hx hb dX11_perform_148 (by decide) (fun c_21 => ?_) (fun c_21 => ?_)
    · rw [if_neg c_21] at h
      refine lv_aload_n hx hb dX11_perform_153 rfl (lv_at hl 2 rfl) ?_
      refine gx_getr (j := 30) S hK hw t_0 cl_12 7 (by decide) rfl mw_454 rfl dX11_perform_154 ?_
      refine lv_iload_n hx hb dX11_perform_157 rfl (lv_at hl 1 rfl) ?_
      refine lv_iload_n hx hb dX11_perform_158 rfl (lv_at hl 0 rfl) ?_
      obtain ⟨r_22, σ_22, τ_22, q_22, h⟩ := bd_some h
      refine gx_cVi (As := [.int r_1, .int r_2]) (rest := []) S hK gx_ok hw (c_X6_enrich l (E := E) N 30 is_30 σ_20 τ_20 r_1 r_2 q_22) cw_X11_244 t_30 cl_7 ⟨Nat.le_of_ble_eq_true rfl, Nat.le_of_ble_eq_true rfl⟩ rfl hl.1 rfl (Nat.le_of_ble_eq_true rfl) ⟨Nat.le_of_ble_eq_true rfl, Nat.le_of_ble_eq_true rfl⟩ dX11_perform_159 (fun r9 σ9 τ9 H locs hp hw => ?_)
      obtain ⟨rfl, rfl, rfl⟩ := hp
      refine lv_pop hx hb dX11_perform_162 rfl ?_
      refine lv_iconst (v := 0) hx hb dX11_perform_163 (by decide) ?_
      obtain ⟨rfl, rfl, rfl⟩ := sm_inj h
      exact gx_ri (post := gq_p 0 σ_22 τ_22) (v := 0) S hr hlk hw rfl dX11_perform_164 ⟨rfl, rfl, rfl⟩
    · rw [if_pos c_21] at h
      refine lv_iconst (v := (-1)) hx hb dX11_perform_151 (by decide) ?_
      obtain ⟨rfl, rfl, rfl⟩ := sm_inj h
      exact gx_ri (post := gq_p (-1) σ_20 τ_20) (v := (-1)) S hr hlk hw rfl dX11_perform_152 ⟨rfl, rfl, rfl⟩
  rw [if_neg c_19] at h
  refine lv_tableOut (tgt := 165) hx hb dX11_perform_26 (by have t_4 := lv_neT (a := 0) c_4 rfl; have t_11 := lv_neT (a := 1) c_11 rfl; have t_15 := lv_neT (a := 2) c_15 rfl; have t_19 := lv_neT (a := 3) c_19 rfl; omega) (by decide) ?_
  refine lv_aload_n hx hb dX11_perform_165 rfl (lv_at hl 2 rfl) ?_
  refine gx_getr (j := 30) S hK hw t_0 cl_12 7 (by decide) rfl mw_454 rfl dX11_perform_166 ?_
  refine gx_get S hK hw t_30 cl_7 9 (by decide) rfl mw_283 rfl dX11_perform_169 ?_
  refine lv_istore (lv' := [(4, .int (σ_3 30 9)), (3, .int r_2), (2, .int r_1), (0, .ref (E.2.2 + 0)), (1, .int x1)]) hx hb dX11_perform_172 hl (by decide) rfl (fun ls hl => ?_)
  obtain ⟨v_23, e_23, h⟩ := nm_some h
  have hl : lv_has ls 5 [(4, .int v_23), (3, .int r_2), (2, .int r_1), (0, .ref (E.2.2 + 0)), (1, .int x1)] := by rw [e_23]; exact hl
  refine lv_aload_n hx hb dX11_perform_174 rfl (lv_at hl 3 rfl) ?_
  refine lv_iload_n hx hb dX11_perform_175 rfl (lv_at hl 2 rfl) ?_
  obtain ⟨u_24, σ_24, τ_24, q_24, h⟩ := bd_some h
  refine gx_cVv (As := [.int r_1]) (rest := []) S hK gx_ok hw (c_X11_passMinutes l (E := E) N σ_3 τ_3 r_1 q_24) cw_X11_253 t_0 cl_12 ⟨Nat.le_of_ble_eq_true rfl, Nat.le_of_ble_eq_true rfl⟩ rfl hl.1 rfl (Nat.le_of_ble_eq_true rfl) ⟨Nat.le_of_ble_eq_true rfl, Nat.le_of_ble_eq_true rfl⟩ dX11_perform_176 (fun σ9 τ9 H locs hp hw => ?_)
  obtain ⟨rfl, rfl⟩ := hp
  refine lv_aload_n hx hb dX11_perform_179 rfl (lv_at hl 3 rfl) ?_
  refine gx_getr (j := 30) S hK hw t_0 cl_12 7 (by decide) rfl mw_454 rfl dX11_perform_180 ?_
  refine gx_get S hK hw t_30 cl_7 9 (by decide) rfl mw_283 rfl dX11_perform_183 ?_
  refine lv_iload hx hb dX11_perform_186 (lv_at hl 0 rfl) ?_
  refine lv_iconst (v := (-1)) hx hb dX11_perform_188 (by decide) ?_
  refine lv_ixor hx hb dX11_perform_189 ?_
  refine lv_iand hx hb dX11_perform_190 ?_
  obtain ⟨r_25, σ_25, τ_25, q_25, h⟩ := bd_some h
  refine gx_cSi (As := [.int ((σ_24 30 9) &&& (v_23 ^^^ (-1)))]) (rest := []) S hK gx_ok hw (c_J6_bitCount_0f7a4 l (E := E) N σ_24 τ_24 ((σ_24 30 9) &&& (v_23 ^^^ (-1))) q_25) cw_X11_261 ⟨Nat.le_of_ble_eq_true rfl, Nat.le_of_ble_eq_true rfl⟩ rfl hl.1 rfl (Nat.le_of_ble_eq_true rfl) ⟨Nat.le_of_ble_eq_true rfl, Nat.le_of_ble_eq_true rfl⟩ dX11_perform_191 (fun r9 σ9 τ9 H locs hp hw => ?_)
  obtain ⟨rfl, rfl, rfl⟩ := hp
  obtain ⟨rfl, rfl, rfl⟩ := sm_inj h
  exact gx_ri (post := gq_p r_25 σ_25 τ_25) (v := r_25) S hr hlk hw rfl dX11_perform_194 ⟨rfl, rfl, rfl⟩
set_option maxHeartbeats 4000000 in
set_option maxRecDepth 100000 in
theorem c_X11_perform (l : Launch) {E : gE} (N : Nat) (σ : gI) (τ : gJ) (x1 : Int32) {r : Int32} {σ1 : gI} {τ1 : gJ} (h : B_X11_perform_0 N σ τ x1 = some (r, σ1, τ1)) : gx_Mi l yX11_perform cX11_perform 5 (some .int) 5 gx_tb E σ τ [.ref (E.2.2 + 0), .int x1] (gq_p r σ1 τ1) := by
  refine gx_bi (by decide +kernel) (Nat.le_of_ble_eq_true rfl) ?_
  intro P9 e9 s m9 below meth C9 S hr hlk hK hw ls hl
  have hl : lv_has ls 5 [(0, .ref (E.2.2 + 0)), (1, .int x1)] := hl
  exact b_X11_perform_0 l S hr hlk hK N σ τ x1 h hw hl
/-! X3_push -/
def B_X3_push_52 (N : Nat) (d : Nat) (σ : gI) (τ : gJ) (y0 : Int32) : Option (Unit × gI × gJ) := nm (up2 σ 44 1 y0) fun σ_1 => nm (up2 σ_1 44 2 (imin 15 ((σ_1 44 2) + 1))) fun σ_2 => some ((), σ_2, τ)
def B_X3_push_0 (N : Nat) (d : Nat) (σ : gI) (τ : gJ) : Option (Unit × gI × gJ) := if σ 44 1 < 0 then (some ((), σ, τ)) else (if σ 44 1 < 15 then (ck (σ 44 1) 15 fun j_3 => bd (B_X6_copy_0 N (46 + 7 * j_3) d σ τ) fun _ σ_4 τ_4 => if 15 ≤ (σ_4 44 1) + 1 then (B_X3_push_52 N d σ_4 τ_4 0) else (B_X3_push_52 N d σ_4 τ_4 ((σ_4 44 1) + 1))) else (some ((), σ, τ)))
set_option maxHeartbeats 4000000 in
set_option maxRecDepth 100000 in
theorem b_X3_push_52 (l : Launch) (S : CallFix P9 m9 C9 cX3_push 2 s av.toArray gx_G RX3) (hr : meth.sig.returnType = none) (hlk : meth.locks = false) (hK : gx_K E s) (N : Nat) (d : Nat) (td : gx_isS d) (σ : gI) (τ : gJ) (y0 : Int32) {r : Unit} {σ1 : gI} {τ1 : gJ} (h : B_X3_push_52 N d σ τ y0 = some (r, σ1, τ1)) {H : Heap} {locs : List Loc} {ls : Array Slot} (hw : gx_W gx_tb gx_tb.length E s σ τ H locs) (hl : lv_has ls 2 [(0, .ref (E.2.2 + 44))]) : W P9 l e9 (gx_rm 1) s m9 av.toArray below meth C9 H locs 0 0 (gq_Qv below av s E σ1 τ1) (F0 m9 52 ls [.int y0, .ref (E.2.2 + 44)]) := by
  have hx := S.1
  have hb := S.2.1
  unfold B_X3_push_52 at h
  refine gx_put S hK gx_ok hw t_44 cl_4 1 (by decide) rfl mw_320 rfl rfl (ty := .int) (v := y0) (by decide +kernel) rfl rfl dX3_push_52 (fun H locs hw => ?_)
  obtain ⟨σ_1, e_1, h⟩ := nm_some h
  rw [← e_1] at hw
  refine lv_aload_n hx hb dX3_push_55 rfl (lv_at hl 0 rfl) ?_
  refine lv_bipush (v := 15) hx hb dX3_push_56 (by decide) ?_
  refine lv_aload_n hx hb dX3_push_58 rfl (lv_at hl 0 rfl) ?_
  refine gx_get S hK hw t_44 cl_4 2 (by decide) rfl mw_321 rfl dX3_push_59 ?_
  refine lv_iconst (v := 1) hx hb dX3_push_62 (by decide) ?_
  refine lv_iadd hx hb dX3_push_63 ?_
  refine gx_min (w := imin 15 ((σ_1 44 2) + 1)) S hl.1 mw_780 mw_529 mw_102 mw_530 ⟨Nat.le_of_ble_eq_true rfl, Nat.le_of_ble_eq_true rfl⟩ ⟨Nat.le_of_ble_eq_true rfl, Nat.le_of_ble_eq_true rfl⟩ dX3_push_64 rfl ?_
  refine gx_put S hK gx_ok hw t_44 cl_4 2 (by decide) rfl mw_321 rfl rfl (ty := .int) (v := imin 15 ((σ_1 44 2) + 1)) (by decide +kernel) rfl rfl dX3_push_67 (fun H locs hw => ?_)
  obtain ⟨σ_2, e_2, h⟩ := nm_some h
  rw [← e_2] at hw
  obtain ⟨-, rfl, rfl⟩ := sm_inj h
  exact gx_rv (post := gq_v σ_2 τ) S hr hlk hw dX3_push_70 ⟨rfl, rfl⟩
set_option maxHeartbeats 4000000 in
set_option maxRecDepth 100000 in
theorem b_X3_push_0 (l : Launch) (S : CallFix P9 m9 C9 cX3_push 2 s av.toArray gx_G RX3) (hr : meth.sig.returnType = none) (hlk : meth.locks = false) (hK : gx_K E s) (N : Nat) (d : Nat) (td : gx_isS d) (σ : gI) (τ : gJ) {r : Unit} {σ1 : gI} {τ1 : gJ} (h : B_X3_push_0 N d σ τ = some (r, σ1, τ1)) {H : Heap} {locs : List Loc} {ls : Array Slot} (hw : gx_W gx_tb gx_tb.length E s σ τ H locs) (hl : lv_has ls 2 [(0, .ref (E.2.2 + 44)), (1, .ref (E.2.2 + d))]) : W P9 l e9 (gx_rm 1) s m9 av.toArray below meth C9 H locs 0 0 (gq_Qv below av s E σ1 τ1) (F0 m9 0 ls []) := by
  have hx := S.1
  have hb := S.2.1
  unfold B_X3_push_0 at h
  refine lv_aload_n hx hb dX3_push_0 rfl (lv_at hl 0 rfl) ?_
  refine gx_get S hK hw t_44 cl_4 1 (by decide) rfl mw_320 rfl dX3_push_1 ?_
  refine lv_if_lt (tgt := 16) hx hb dX3_push_4 (by decide) (fun c_1 => ?_) (fun c_1 => ?_)
  · rw [if_pos c_1] at h
    obtain ⟨-, rfl, rfl⟩ := sm_inj h
    exact gx_rv (post := gq_v σ τ) S hr hlk hw dX3_push_16 ⟨rfl, rfl⟩
  · rw [if_neg c_1] at h
    refine lv_aload_n hx hb dX3_push_7 rfl (lv_at hl 0 rfl) ?_
    refine gx_get S hK hw t_44 cl_4 1 (by decide) rfl mw_320 rfl dX3_push_8 ?_
    refine lv_bipush (v := 15) hx hb dX3_push_11 (by decide) ?_
    refine lv_icmp_lt (tgt := 17) hx hb dX3_push_13 (by decide) (fun c_2 => ?_) (fun c_2 => ?_)
    · rw [if_pos c_2] at h
      refine lv_aload_n hx hb dX3_push_17 rfl (lv_at hl 0 rfl) ?_
      refine gx_getr (j := 45) S hK hw t_44 cl_4 0 (by decide) rfl mw_319 rfl dX3_push_18 ?_
      refine lv_aload_n hx hb dX3_push_21 rfl (lv_at hl 0 rfl) ?_
      refine gx_get S hK hw t_44 cl_4 1 (by decide) rfl mw_320 rfl dX3_push_22 ?_
      obtain ⟨j_3, hj_3, hi_3, h⟩ := ck_some h
      refine gx_aald (r := 46 + 7 * j_3) S hK hw t_45 j_3 hj_3 hi_3 (ra_past (in_lt hi_3 hj_3)) dX3_push_25 ?_
      refine lv_aload_n hx hb dX3_push_26 rfl (lv_at hl 1 rfl) ?_
      obtain ⟨u_4, σ_4, τ_4, q_4, h⟩ := bd_some h
      refine gx_cVv (As := [.ref (E.2.2 + d)]) (rest := []) S hK gx_ok hw (c_X6_copy l (E := E) N (46 + 7 * j_3) d (tb_past (in_lt hi_3 hj_3)) td σ τ q_4) cw_X3_23 (tb_past (in_lt hi_3 hj_3)).1 cl_7 ⟨Nat.le_of_ble_eq_true rfl, Nat.le_of_ble_eq_true rfl⟩ rfl hl.1 rfl (Nat.le_of_ble_eq_true rfl) ⟨Nat.le_of_ble_eq_true rfl, Nat.le_of_ble_eq_true rfl⟩ dX3_push_27 (fun σ9 τ9 H locs hp hw => ?_)
      obtain ⟨rfl, rfl⟩ := hp
      refine lv_aload_n hx hb dX3_push_30 rfl (lv_at hl 0 rfl) ?_
      refine lv_aload_n hx hb dX3_push_31 rfl (lv_at hl 0 rfl) ?_
      refine gx_get S hK hw t_44 cl_4 1 (by decide) rfl mw_320 rfl dX3_push_32 ?_
      refine lv_iconst (v := 1) hx hb dX3_push_35 (by decide) ?_
      refine lv_iadd hx hb dX3_push_36 ?_
      refine lv_bipush (v := 15) hx hb dX3_push_37 (by decide) ?_
      refine lv_icmp_ge (tgt := 51) hx hb dX3_push_39 (by decide) (fun c_5 => ?_) (fun c_5 => ?_)
      · rw [if_pos c_5] at h
        refine lv_iconst (v := 0) hx hb dX3_push_51 (by decide) ?_
        exact b_X3_push_52 l S hr hlk hK N d td σ_4 τ_4 0 h hw (lv_sub hl [0] rfl)
      · rw [if_neg c_5] at h
        refine lv_aload_n hx hb dX3_push_42 rfl (lv_at hl 0 rfl) ?_
        refine gx_get S hK hw t_44 cl_4 1 (by decide) rfl mw_320 rfl dX3_push_43 ?_
        refine lv_iconst (v := 1) hx hb dX3_push_46 (by decide) ?_
        refine lv_iadd hx hb dX3_push_47 ?_
        refine lv_goto (tgt := 52) hx hb dX3_push_48 (by decide) ?_
        exact b_X3_push_52 l S hr hlk hK N d td σ_4 τ_4 ((σ_4 44 1) + 1) h hw (lv_sub hl [0] rfl)
    · rw [if_neg c_2] at h
      obtain ⟨-, rfl, rfl⟩ := sm_inj h
      exact gx_rv (post := gq_v σ τ) S hr hlk hw dX3_push_16 ⟨rfl, rfl⟩
set_option maxHeartbeats 4000000 in
set_option maxRecDepth 100000 in
theorem c_X3_push (l : Launch) {E : gE} (N : Nat) (d : Nat) (td : gx_isS d) (σ : gI) (τ : gJ) {r : Unit} {σ1 : gI} {τ1 : gJ} (h : B_X3_push_0 N d σ τ = some (r, σ1, τ1)) : gx_Mv l yX3_push cX3_push 2 none 1 gx_tb E σ τ [.ref (E.2.2 + 44), .ref (E.2.2 + d)] (gq_v σ1 τ1) := by
  refine gx_bv (by decide +kernel) (Nat.le_of_ble_eq_true rfl) ?_
  intro P9 e9 s m9 below meth C9 S hr hlk hK hw ls hl
  have hl : lv_has ls 2 [(0, .ref (E.2.2 + 44)), (1, .ref (E.2.2 + d))] := hl
  exact b_X3_push_0 l S hr hlk hK N d td σ τ h hw hl
/-! X11_day -/
def B_X11_day_113 (N : Nat) (σ : gI) (τ : gJ) (x2 : Int32) (x3 : Int32) (x4 : Int32) : Option (Int32 × gI × gJ) := if x4 = 0 then (bd (B_X4_tell__0 N σ τ 1 x3.toInt64) fun _ σ_2 τ_2 => some (x2, σ_2, τ_2)) else (bd (B_X4_tell__0 N σ τ 0 x3.toInt64) fun _ σ_3 τ_3 => some (x2, σ_3, τ_3))
def C_X11_day_48 (N : Nat) (rec_48 : gI → gJ → Int32 → Int32 → Int32 → Int32 → Int32 → Option (Int32 × gI × gJ)) (σ : gI) (τ : gJ) (x1 : Int32) (x2 : Int32) (x3 : Int32) (x4 : Int32) (x5 : Int32) : Option (Int32 × gI × gJ) := if x1 ≤ x5 then (if x2 ≤ 0 then (B_X11_day_113 N σ τ x2 x3 x4) else (bd (B_X3_push_0 N 37 σ τ) fun _ σ_3 τ_3 => B_X11_day_113 N σ_3 τ_3 x2 x3 x4)) else (if x4 = 0 then (if x2 ≤ 0 then (B_X11_day_113 N σ τ x2 x3 x4) else (bd (B_X3_push_0 N 37 σ τ) fun _ σ_6 τ_6 => B_X11_day_113 N σ_6 τ_6 x2 x3 x4)) else (bd (B_X11_perform_0 N σ τ x5) fun r_7 σ_7 τ_7 => if r_7 < 0 then (nm (x5 + 1) fun v_9 => rec_48 σ_7 τ_7 x1 x2 x3 0 v_9) else (nm (x2 + 1) fun v_10 => nm (x3 + r_7) fun v_11 => nm (x5 + 1) fun v_12 => rec_48 σ_7 τ_7 x1 v_10 v_11 1 v_12)))
def H_X11_day_48 (N : Nat) : Nat → gI → gJ → Int32 → Int32 → Int32 → Int32 → Int32 → Option (Int32 × gI × gJ) := itn (fun rec_48 => C_X11_day_48 N rec_48) (fun _ _ _ _ _ _ _ => none)
def B_X11_day_0 (N : Nat) (σ : gI) (τ : gJ) : Option (Int32 × gI × gJ) := bd (B_X2_read_0 N σ τ) fun r_1 σ_1 τ_1 => bd (B_X7_cut_0 N σ_1 τ_1 0) fun r_2 σ_2 τ_2 => if 0 ≤ r_1 then (bd (B_X6_copy_0 N 37 30 σ_2 τ_2) fun _ σ_4 τ_4 => H_X11_day_48 N N σ_4 τ_4 r_1 0 0 1 0) else (some (r_1, σ_2, τ_2))
set_option maxHeartbeats 4000000 in
set_option maxRecDepth 100000 in
theorem b_X11_day_113 (l : Launch) (S : CallFix P9 m9 C9 cX11_day 7 s av.toArray gx_G RX11) (hr : meth.sig.returnType = (some .int)) (hlk : meth.locks = false) (hK : gx_K E s) (N : Nat) (σ : gI) (τ : gJ) (x2 : Int32) (x3 : Int32) (x4 : Int32) {r : Int32} {σ1 : gI} {τ1 : gJ} (h : B_X11_day_113 N σ τ x2 x3 x4 = some (r, σ1, τ1)) {H : Heap} {locs : List Loc} {ls : Array Slot} (hw : gx_W gx_tb gx_tb.length E s σ τ H locs) (hl : lv_has ls 7 [(0, .ref (E.2.2 + 0)), (2, .int x2), (3, .int x3), (4, .int x4)]) : W P9 l e9 (gx_rm 7) s m9 av.toArray below meth C9 H locs 0 0 (gq_Qi below av s E r σ1 τ1) (F0 m9 113 ls []) := by
  have hx := S.1
  have hb := S.2.1
  unfold B_X11_day_113 at h
  refine lv_aload_n hx hb dX11_day_113 rfl (lv_at hl 0 rfl) ?_
  refine gx_getr (j := 156) S hK hw t_0 cl_12 13 (by decide) rfl mw_460 rfl dX11_day_114 ?_
  refine lv_iload hx hb dX11_day_117 (lv_at hl 3 rfl) ?_
  refine lv_if_eq (tgt := 126) hx hb dX11_day_119 (by decide) (fun c_1 => ?_) (fun c_1 => ?_)
  · rw [if_pos c_1] at h
    refine lv_lconst (v := 1) hx hb dX11_day_126 (by decide) ?_
    refine lv_iload_n hx hb dX11_day_127 rfl (lv_at hl 2 rfl) ?_
    refine lv_i2l (v := x3.toInt64) hx hb dX11_day_128 rfl ?_
    obtain ⟨u_2, σ_2, τ_2, q_2, h⟩ := bd_some h
    refine gx_cVv (As := [.long 1, .long x3.toInt64]) (rest := []) S hK gx_ok hw (c_X4_tell_ l (E := E) N σ τ 1 x3.toInt64 q_2) cw_X11_257 t_156 cl_5 ⟨Nat.le_of_ble_eq_true rfl, Nat.le_of_ble_eq_true rfl⟩ rfl hl.1 rfl (Nat.le_of_ble_eq_true rfl) ⟨Nat.le_of_ble_eq_true rfl, Nat.le_of_ble_eq_true rfl⟩ dX11_day_129 (fun σ9 τ9 H locs hp hw => ?_)
    obtain ⟨rfl, rfl⟩ := hp
    refine lv_iload_n hx hb dX11_day_132 rfl (lv_at hl 1 rfl) ?_
    obtain ⟨rfl, rfl, rfl⟩ := sm_inj h
    exact gx_ri (post := gq_p x2 σ_2 τ_2) (v := x2) S hr hlk hw rfl dX11_day_133 ⟨rfl, rfl, rfl⟩
  · rw [if_neg c_1] at h
    refine lv_lconst (v := 0) hx hb dX11_day_122 (by decide) ?_
    refine lv_goto (tgt := 127) hx hb dX11_day_123 (by decide) ?_
    refine lv_iload_n hx hb dX11_day_127 rfl (lv_at hl 2 rfl) ?_
    refine lv_i2l (v := x3.toInt64) hx hb dX11_day_128 rfl ?_
    obtain ⟨u_3, σ_3, τ_3, q_3, h⟩ := bd_some h
    refine gx_cVv (As := [.long 0, .long x3.toInt64]) (rest := []) S hK gx_ok hw (c_X4_tell_ l (E := E) N σ τ 0 x3.toInt64 q_3) cw_X11_257 t_156 cl_5 ⟨Nat.le_of_ble_eq_true rfl, Nat.le_of_ble_eq_true rfl⟩ rfl hl.1 rfl (Nat.le_of_ble_eq_true rfl) ⟨Nat.le_of_ble_eq_true rfl, Nat.le_of_ble_eq_true rfl⟩ dX11_day_129 (fun σ9 τ9 H locs hp hw => ?_)
    obtain ⟨rfl, rfl⟩ := hp
    refine lv_iload_n hx hb dX11_day_132 rfl (lv_at hl 1 rfl) ?_
    obtain ⟨rfl, rfl, rfl⟩ := sm_inj h
    exact gx_ri (post := gq_p x2 σ_3 τ_3) (v := x2) S hr hlk hw rfl dX11_day_133 ⟨rfl, rfl, rfl⟩
set_option maxHeartbeats 4000000 in
set_option maxRecDepth 100000 in
theorem k_X11_day_48 (l : Launch) (S : CallFix P9 m9 C9 cX11_day 7 s av.toArray gx_G RX11) (hr : meth.sig.returnType = (some .int)) (hlk : meth.locks = false) (hK : gx_K E s) (N : Nat) (rec_48 : gI → gJ → Int32 → Int32 → Int32 → Int32 → Int32 → Option (Int32 × gI × gJ)) (hrec_48 : ∀ (σ : gI) (τ : gJ) (x1 : Int32) (x2 : Int32) (x3 : Int32) (x4 : Int32) (x5 : Int32) (r : Int32) (σ1 : gI) (τ1 : gJ) (H : Heap) (locs : List Loc) (ls : Array Slot), rec_48 σ τ x1 x2 x3 x4 x5 = some (r, σ1, τ1) → gx_W gx_tb gx_tb.length E s σ τ H locs → lv_has ls 7 [(0, .ref (E.2.2 + 0)), (1, .int x1), (2, .int x2), (3, .int x3), (4, .int x4), (5, .int x5)] → W P9 l e9 (gx_rm 7) s m9 av.toArray below meth C9 H locs 0 0 (gq_Qi below av s E r σ1 τ1) (F0 m9 48 ls [])) (σ : gI) (τ : gJ) (x1 : Int32) (x2 : Int32) (x3 : Int32) (x4 : Int32) (x5 : Int32) {r : Int32} {σ1 : gI} {τ1 : gJ} (h : C_X11_day_48 N rec_48 σ τ x1 x2 x3 x4 x5 = some (r, σ1, τ1)) {H : Heap} {locs : List Loc} {ls : Array Slot} (hw : gx_W gx_tb gx_tb.length E s σ τ H locs) (hl : lv_has ls 7 [(0, .ref (E.2.2 + 0)), (1, .int x1), (2, .int x2), (3, .int x3), (4, .int x4), (5, .int x5)]) : W P9 l e9 (gx_rm 7) s m9 av.toArray below meth C9 H locs 0 0 (gq_Qi below av s E r σ1 τ1) (F0 m9 48 ls []) := by
  have hx := S.1
  have hb := S.2.1
  unfold C_X11_day_48 at h
  refine lv_iload hx hb dX11_day_48 (lv_at hl 5 rfl) ?_
  refine lv_iload_n hx hb dX11_day_50 rfl (lv_at hl 1 rfl) ?_
  refine lv_icmp_ge (tgt := 98) hx hb dX11_day_51 (by decide) (fun c_1 => ?_) (fun c_1 => ?_)
  · rw [if_pos c_1] at h
    refine lv_iload_n hx hb dX11_day_98 rfl (lv_at hl 2 rfl) ?_
    refine lv_if_le (tgt := 113) hx hb dX11_day_99 (by decide) (fun c_2 => ?_) (fun c_2 => ?_)
    · rw [if_pos c_2] at h
      exact b_X11_day_113 l S hr hlk hK N σ τ x2 x3 x4 h hw (lv_sub hl [0, 2, 3, 4] rfl)
    · rw [if_neg c_2] at h
      refine lv_aload_n hx hb dX11_day_102 rfl (lv_at hl 0 rfl) ?_
      refine gx_getr (j := 44) S hK hw t_0 cl_12 9 (by decide) rfl mw_456 rfl dX11_day_103 ?_
      refine lv_aload_n hx hb dX11_day_106 rfl (lv_at hl 0 rfl) ?_
      refine gx_getr (j := 37) S hK hw t_0 cl_12 8 (by decide) rfl mw_455 rfl dX11_day_107 ?_
      obtain ⟨u_3, σ_3, τ_3, q_3, h⟩ := bd_some h
      refine gx_cVv (As := [.ref (E.2.2 + 37)]) (rest := []) S hK gx_ok hw (c_X3_push l (E := E) N 37 is_37 σ τ q_3) cw_X11_204 t_44 cl_4 ⟨Nat.le_of_ble_eq_true rfl, Nat.le_of_ble_eq_true rfl⟩ rfl hl.1 rfl (Nat.le_of_ble_eq_true rfl) ⟨Nat.le_of_ble_eq_true rfl, Nat.le_of_ble_eq_true rfl⟩ dX11_day_110 (fun σ9 τ9 H locs hp hw => ?_)
      obtain ⟨rfl, rfl⟩ := hp
      exact b_X11_day_113 l S hr hlk hK N σ_3 τ_3 x2 x3 x4 h hw (lv_sub hl [0, 2, 3, 4] rfl)
  · rw [if_neg c_1] at h
    refine lv_iload hx hb dX11_day_54 (lv_at hl 4 rfl) ?_
    refine lv_if_eq (tgt := 98) hx hb dX11_day_56 (by decide) (fun c_4 => ?_) (fun c_4 => ?_)
    · rw [if_pos c_4] at h
      refine lv_iload_n hx hb dX11_day_98 rfl (lv_at hl 2 rfl) ?_
      refine lv_if_le (tgt := 113) hx hb dX11_day_99 (by decide) (fun c_5 => ?_) (fun c_5 => ?_)
      · rw [if_pos c_5] at h
        exact b_X11_day_113 l S hr hlk hK N σ τ x2 x3 x4 h hw (lv_sub hl [0, 2, 3, 4] rfl)
      · rw [if_neg c_5] at h
        refine lv_aload_n hx hb dX11_day_102 rfl (lv_at hl 0 rfl) ?_
        refine gx_getr (j := 44) S hK hw t_0 cl_12 9 (by decide) rfl mw_456 rfl dX11_day_103 ?_
        refine lv_aload_n hx hb dX11_day_106 rfl (lv_at hl 0 rfl) ?_
        refine gx_getr (j := 37) S hK hw t_0 cl_12 8 (by decide) rfl mw_455 rfl dX11_day_107 ?_
        obtain ⟨u_6, σ_6, τ_6, q_6, h⟩ := bd_some h
        refine gx_cVv (As := [.ref (E.2.2 + 37)]) (rest := []) S hK gx_ok hw (c_X3_push l (E := E) N 37 is_37 σ τ q_6) cw_X11_204 t_44 cl_4 ⟨Nat.le_of_ble_eq_true rfl, Nat.le_of_ble_eq_true rfl⟩ rfl hl.1 rfl (Nat.le_of_ble_eq_true rfl) ⟨Nat.le_of_ble_eq_true rfl, Nat.le_of_ble_eq_true rfl⟩ dX11_day_110 (fun σ9 τ9 H locs hp hw => ?_)
        obtain ⟨rfl, rfl⟩ := hp
        exact b_X11_day_113 l S hr hlk hK N σ_6 τ_6 x2 x3 x4 h hw (lv_sub hl [0, 2, 3, 4] rfl)
    · rw [if_neg c_4] at h
      refine lv_aload_n hx hb dX11_day_59 rfl (lv_at hl 0 rfl) ?_
      refine lv_iload hx hb dX11_day_60 (lv_at hl 5 rfl) ?_
      obtain ⟨r_7, σ_7, τ_7, q_7, h⟩ := bd_some h
      refine gx_cVi (As := [.int x5]) (rest := []) S hK gx_ok hw (c_X11_perform l (E := E) N σ τ x5 q_7) cw_X11_272 t_0 cl_12 ⟨Nat.le_of_ble_eq_true rfl, Nat.le_of_ble_eq_true rfl⟩ rfl hl.1 rfl (Nat.le_of_ble_eq_true rfl) ⟨Nat.le_of_ble_eq_true rfl, Nat.le_of_ble_eq_true rfl⟩ dX11_day_62 (fun r9 σ9 τ9 H locs hp hw => ?_)
      obtain ⟨rfl, rfl, rfl⟩ := hp
      refine lv_istore (lv' := [(6, .int r_7), (0, .ref (E.2.2 + 0)), (1, .int x1), (2, .int x2), (3, .int x3), (4, .int x4), (5, .int x5)]) hx hb dX11_day_65 hl (by decide) rfl (fun ls hl => ?_)
      refine lv_iload hx hb dX11_day_67 (lv_at hl 0 rfl) ?_
      refine lv_if_lt (tgt := 76) hx hb dX11_day_69 (by decide) (fun c_8 => ?_) (fun c_8 => ?_)
      · rw [if_pos c_8] at h
        refine lv_iconst (v := 0) hx hb dX11_day_76 (by decide) ?_
        refine lv_istore (lv' := [(4, .int 0), (6, .int r_7), (0, .ref (E.2.2 + 0)), (1, .int x1), (2, .int x2), (3, .int x3), (5, .int x5)]) hx hb dX11_day_77 hl (by decide) rfl (fun ls hl => ?_)
        refine lv_iload hx hb dX11_day_79 (lv_at hl 0 rfl) ?_
        refine lv_if_eq (tgt := 92) hx hb dX11_day_81 (by decide) (fun _ => ?_) (fun h9 => absurd (by decide) h9)
        refine lv_iinc (v := x5 + 1) (lv' := [(5, .int (x5 + 1)), (4, .int 0), (6, .int r_7), (0, .ref (E.2.2 + 0)), (1, .int x1), (2, .int x2), (3, .int x3)]) hx hb dX11_day_92 hl (k := 6) rfl rfl (by decide) rfl (fun ls hl => ?_)
        obtain ⟨v_9, e_9, h⟩ := nm_some h
        have hl : lv_has ls 7 [(5, .int v_9), (4, .int 0), (6, .int r_7), (0, .ref (E.2.2 + 0)), (1, .int x1), (2, .int x2), (3, .int x3)] := by rw [e_9]; exact hl
        refine lv_goto (tgt := 48) hx hb dX11_day_95 (by decide) ?_
        exact hrec_48 σ_7 τ_7 x1 x2 x3 0 v_9 _ _ _ _ _ _ h hw (lv_sub hl [3, 4, 5, 6, 1, 0] rfl)
      · rw [if_neg c_8] at h
        refine lv_iconst (v := 1) hx hb dX11_day_72 (by decide) ?_
        refine lv_goto (tgt := 77) hx hb dX11_day_73 (by decide) ?_
        refine lv_istore (lv' := [(4, .int 1), (6, .int r_7), (0, .ref (E.2.2 + 0)), (1, .int x1), (2, .int x2), (3, .int x3), (5, .int x5)]) hx hb dX11_day_77 hl (by decide) rfl (fun ls hl => ?_)
        refine lv_iload hx hb dX11_day_79 (lv_at hl 0 rfl) ?_
        refine lv_if_eq (tgt := 92) hx hb dX11_day_81 (by decide) (fun h9 => absurd h9 (by decide)) (fun _ => ?_)
        refine lv_iinc (v := x2 + 1) (lv' := [(2, .int (x2 + 1)), (4, .int 1), (6, .int r_7), (0, .ref (E.2.2 + 0)), (1, .int x1), (3, .int x3), (5, .int x5)]) hx hb dX11_day_84 hl (k := 4) rfl rfl (by decide) rfl (fun ls hl => ?_)
        obtain ⟨v_10, e_10, h⟩ := nm_some h
        have hl : lv_has ls 7 [(2, .int v_10), (4, .int 1), (6, .int r_7), (0, .ref (E.2.2 + 0)), (1, .int x1), (3, .int x3), (5, .int x5)] := by rw [e_10]; exact hl
        refine lv_iload_n hx hb dX11_day_87 rfl (lv_at hl 5 rfl) ?_
        refine lv_iload hx hb dX11_day_88 (lv_at hl 2 rfl) ?_
        refine lv_iadd hx hb dX11_day_90 ?_
        refine lv_istore_n (lv' := [(3, .int (x3 + r_7)), (2, .int v_10), (4, .int 1), (6, .int r_7), (0, .ref (E.2.2 + 0)), (1, .int x1), (5, .int x5)]) hx hb dX11_day_91 rfl hl (by decide) rfl (fun ls hl => ?_)
        obtain ⟨v_11, e_11, h⟩ := nm_some h
        have hl : lv_has ls 7 [(3, .int v_11), (2, .int v_10), (4, .int 1), (6, .int r_7), (0, .ref (E.2.2 + 0)), (1, .int x1), (5, .int x5)] := by rw [e_11]; exact hl
        refine lv_iinc (v := x5 + 1) (lv' := [(5, .int (x5 + 1)), (3, .int v_11), (2, .int v_10), (4, .int 1), (6, .int r_7), (0, .ref (E.2.2 + 0)), (1, .int x1)]) hx hb dX11_day_92 hl (k := 6) rfl rfl (by decide) rfl (fun ls hl => ?_)
        obtain ⟨v_12, e_12, h⟩ := nm_some h
        have hl : lv_has ls 7 [(5, .int v_12), (3, .int v_11), (2, .int v_10), (4, .int 1), (6, .int r_7), (0, .ref (E.2.2 + 0)), (1, .int x1)] := by rw [e_12]; exact hl
        refine lv_goto (tgt := 48) hx hb dX11_day_95 (by decide) ?_
        exact hrec_48 σ_7 τ_7 x1 v_10 v_11 1 v_12 _ _ _ _ _ _ h hw (lv_sub hl [5, 6, 2, 1, 3, 0] rfl)
set_option maxHeartbeats 4000000 in
set_option maxRecDepth 100000 in
theorem h_X11_day_48 (l : Launch) (S : CallFix P9 m9 C9 cX11_day 7 s av.toArray gx_G RX11) (hr : meth.sig.returnType = (some .int)) (hlk : meth.locks = false) (hK : gx_K E s) (N : Nat) : ∀ (n : Nat) (σ : gI) (τ : gJ) (x1 : Int32) (x2 : Int32) (x3 : Int32) (x4 : Int32) (x5 : Int32) (r : Int32) (σ1 : gI) (τ1 : gJ), H_X11_day_48 N n σ τ x1 x2 x3 x4 x5 = some (r, σ1, τ1) → ∀ (H : Heap) (locs : List Loc) (ls : Array Slot), gx_W gx_tb gx_tb.length E s σ τ H locs → lv_has ls 7 [(0, .ref (E.2.2 + 0)), (1, .int x1), (2, .int x2), (3, .int x3), (4, .int x4), (5, .int x5)] → W P9 l e9 (gx_rm 7) s m9 av.toArray below meth C9 H locs 0 0 (gq_Qi below av s E r σ1 τ1) (F0 m9 48 ls []) := by
  intro n
  induction n with
  | zero => intro σ τ x1 x2 x3 x4 x5 r σ1 τ1 h; cases h
  | succ n ih =>
    intro σ τ x1 x2 x3 x4 x5 r σ1 τ1 h H locs ls hw hl
    exact k_X11_day_48 l S hr hlk hK N (H_X11_day_48 N n) (fun σ τ x1 x2 x3 x4 x5 r σ1 τ1 H locs ls h hw hl => ih σ τ x1 x2 x3 x4 x5 r σ1 τ1 h H locs ls hw hl) σ τ x1 x2 x3 x4 x5 h hw hl
set_option maxHeartbeats 4000000 in
set_option maxRecDepth 100000 in
theorem b_X11_day_0 (l : Launch) (S : CallFix P9 m9 C9 cX11_day 7 s av.toArray gx_G RX11) (hr : meth.sig.returnType = (some .int)) (hlk : meth.locks = false) (hK : gx_K E s) (N : Nat) (σ : gI) (τ : gJ) {r : Int32} {σ1 : gI} {τ1 : gJ} (h : B_X11_day_0 N σ τ = some (r, σ1, τ1)) {H : Heap} {locs : List Loc} {ls : Array Slot} (hw : gx_W gx_tb gx_tb.length E s σ τ H locs) (hl : lv_has ls 7 [(0, .ref (E.2.2 + 0))]) : W P9 l e9 (gx_rm 7) s m9 av.toArray below meth C9 H locs 0 0 (gq_Qi below av s E r σ1 τ1) (F0 m9 0 ls []) := by
  have hx := S.1
  have hb := S.2.1
  unfold B_X11_day_0 at h
  refine lv_aload_n hx hb dX11_day_0 rfl (lv_at hl 0 rfl) ?_
  refine gx_getr (j := 25) S hK hw t_0 cl_12 6 (by decide) rfl mw_453 rfl dX11_day_1 ?_
  refine lv_aload_n hx hb dX11_day_4 rfl (lv_at hl 0 rfl) ?_
  refine gx_getr (j := 1) S hK hw t_0 cl_12 0 (by decide) rfl mw_447 rfl dX11_day_5 ?_
  obtain ⟨r_1, σ_1, τ_1, q_1, h⟩ := bd_some h
  refine gx_cVi (As := [.ref (E.2.2 + 1)]) (rest := []) S hK gx_ok hw (c_X2_read l (E := E) N σ τ q_1) cw_X11_269 t_25 cl_3 ⟨Nat.le_of_ble_eq_true rfl, Nat.le_of_ble_eq_true rfl⟩ rfl hl.1 rfl (Nat.le_of_ble_eq_true rfl) ⟨Nat.le_of_ble_eq_true rfl, Nat.le_of_ble_eq_true rfl⟩ dX11_day_8 (fun r9 σ9 τ9 H locs hp hw => ?_)
  obtain ⟨rfl, rfl, rfl⟩ := hp
  refine lv_istore_n (lv' := [(1, .int r_1), (0, .ref (E.2.2 + 0))]) hx hb dX11_day_11 rfl hl (by decide) rfl (fun ls hl => ?_)
  refine lv_aload_n hx hb dX11_day_12 rfl (lv_at hl 1 rfl) ?_
  refine gx_getr (j := 1) S hK hw t_0 cl_12 0 (by decide) rfl mw_447 rfl dX11_day_13 ?_
  refine lv_iconst (v := 0) hx hb dX11_day_16 (by decide) ?_
  obtain ⟨r_2, σ_2, τ_2, q_2, h⟩ := bd_some h
  refine gx_cVi (As := [.int 0]) (rest := []) S hK gx_ok hw (c_X7_cut l (E := E) N σ_1 τ_1 0 q_2) cw_X11_111 t_1 cl_8 ⟨Nat.le_of_ble_eq_true rfl, Nat.le_of_ble_eq_true rfl⟩ rfl hl.1 rfl (Nat.le_of_ble_eq_true rfl) ⟨Nat.le_of_ble_eq_true rfl, Nat.le_of_ble_eq_true rfl⟩ dX11_day_17 (fun r9 σ9 τ9 H locs hp hw => ?_)
  obtain ⟨rfl, rfl, rfl⟩ := hp
  refine lv_pop hx hb dX11_day_20 rfl ?_
  refine lv_iload_n hx hb dX11_day_21 rfl (lv_at hl 0 rfl) ?_
  refine lv_if_ge (tgt := 27) hx hb dX11_day_22 (by decide) (fun c_3 => ?_) (fun c_3 => ?_)
  · rw [if_pos c_3] at h
    refine lv_aload_n hx hb dX11_day_27 rfl (lv_at hl 1 rfl) ?_
    refine gx_getr (j := 37) S hK hw t_0 cl_12 8 (by decide) rfl mw_455 rfl dX11_day_28 ?_
    refine lv_aload_n hx hb dX11_day_31 rfl (lv_at hl 1 rfl) ?_
    refine gx_getr (j := 30) S hK hw t_0 cl_12 7 (by decide) rfl mw_454 rfl dX11_day_32 ?_
    obtain ⟨u_4, σ_4, τ_4, q_4, h⟩ := bd_some h
    refine gx_cVv (As := [.ref (E.2.2 + 30)]) (rest := []) S hK gx_ok hw (c_X6_copy l (E := E) N 37 30 is_37 is_30 σ_2 τ_2 q_4) cw_X11_270 t_37 cl_7 ⟨Nat.le_of_ble_eq_true rfl, Nat.le_of_ble_eq_true rfl⟩ rfl hl.1 rfl (Nat.le_of_ble_eq_true rfl) ⟨Nat.le_of_ble_eq_true rfl, Nat.le_of_ble_eq_true rfl⟩ dX11_day_35 (fun σ9 τ9 H locs hp hw => ?_)
    obtain ⟨rfl, rfl⟩ := hp
    refine lv_iconst (v := 0) hx hb dX11_day_38 (by decide) ?_
    refine lv_istore_n (lv' := [(2, .int 0), (1, .int r_1), (0, .ref (E.2.2 + 0))]) hx hb dX11_day_39 rfl hl (by decide) rfl (fun ls hl => ?_)
    refine lv_iconst (v := 0) hx hb dX11_day_40 (by decide) ?_
    refine lv_istore_n (lv' := [(3, .int 0), (2, .int 0), (1, .int r_1), (0, .ref (E.2.2 + 0))]) hx hb dX11_day_41 rfl hl (by decide) rfl (fun ls hl => ?_)
    refine lv_iconst (v := 1) hx hb dX11_day_42 (by decide) ?_
    refine lv_istore (lv' := [(4, .int 1), (3, .int 0), (2, .int 0), (1, .int r_1), (0, .ref (E.2.2 + 0))]) hx hb dX11_day_43 hl (by decide) rfl (fun ls hl => ?_)
    refine lv_iconst (v := 0) hx hb dX11_day_45 (by decide) ?_
    refine lv_istore (lv' := [(5, .int 0), (4, .int 1), (3, .int 0), (2, .int 0), (1, .int r_1), (0, .ref (E.2.2 + 0))]) hx hb dX11_day_46 hl (by decide) rfl (fun ls hl => ?_)
    exact h_X11_day_48 l S hr hlk hK N N σ_4 τ_4 r_1 0 0 1 0 _ _ _ h _ _ _ hw (lv_sub hl [5, 4, 3, 2, 1, 0] rfl)
  · rw [if_neg c_3] at h
    refine lv_iload_n hx hb dX11_day_25 rfl (lv_at hl 0 rfl) ?_
    obtain ⟨rfl, rfl, rfl⟩ := sm_inj h
    exact gx_ri (post := gq_p r_1 σ_2 τ_2) (v := r_1) S hr hlk hw rfl dX11_day_26 ⟨rfl, rfl, rfl⟩
set_option maxHeartbeats 4000000 in
set_option maxRecDepth 100000 in
theorem c_X11_day (l : Launch) {E : gE} (N : Nat) (σ : gI) (τ : gJ) {r : Int32} {σ1 : gI} {τ1 : gJ} (h : B_X11_day_0 N σ τ = some (r, σ1, τ1)) : gx_Mi l yX11_day cX11_day 7 (some .int) 7 gx_tb E σ τ [.ref (E.2.2 + 0)] (gq_p r σ1 τ1) := by
  refine gx_bi (by decide +kernel) (Nat.le_of_ble_eq_true rfl) ?_
  intro P9 e9 s m9 below meth C9 S hr hlk hK hw ls hl
  have hl : lv_has ls 7 [(0, .ref (E.2.2 + 0))] := hl
  exact b_X11_day_0 l S hr hlk hK N σ τ h hw hl
/-! X9_remember -/
def B_X9_remember_0 (N : Nat) (σ : gI) (τ : gJ) (x1 : Int32) (x2 : Int32) : Option (Unit × gI × gJ) := if x1 < 0 then (some ((), σ, τ)) else (if 4096 ≤ x1 then (some ((), σ, τ)) else (ck x1 4096 fun j_3 => nm (up2 σ 161 j_3 x2) fun σ_4 => some ((), σ_4, τ)))
set_option maxHeartbeats 4000000 in
set_option maxRecDepth 100000 in
theorem b_X9_remember_0 (l : Launch) (S : CallFix P9 m9 C9 cX9_remember 3 s av.toArray gx_G RX9) (hr : meth.sig.returnType = none) (hlk : meth.locks = false) (hK : gx_K E s) (N : Nat) (σ : gI) (τ : gJ) (x1 : Int32) (x2 : Int32) {r : Unit} {σ1 : gI} {τ1 : gJ} (h : B_X9_remember_0 N σ τ x1 x2 = some (r, σ1, τ1)) {H : Heap} {locs : List Loc} {ls : Array Slot} (hw : gx_W gx_tb gx_tb.length E s σ τ H locs) (hl : lv_has ls 3 [(0, .ref (E.2.2 + 160)), (1, .int x1), (2, .int x2)]) : W P9 l e9 (gx_rm 0) s m9 av.toArray below meth C9 H locs 0 0 (gq_Qv below av s E σ1 τ1) (F0 m9 0 ls []) := by
  have hx := S.1
  have hb := S.2.1
  unfold B_X9_remember_0 at h
  refine lv_iload_n hx hb dX9_remember_0 rfl (lv_at hl 1 rfl) ?_
  refine lv_if_lt (tgt := 18) hx hb dX9_remember_1 (by decide) (fun c_1 => ?_) (fun c_1 => ?_)
  · rw [if_pos c_1] at h
    obtain ⟨-, rfl, rfl⟩ := sm_inj h
    exact gx_rv (post := gq_v σ τ) S hr hlk hw dX9_remember_18 ⟨rfl, rfl⟩
  · rw [if_neg c_1] at h
    refine lv_iload_n hx hb dX9_remember_4 rfl (lv_at hl 1 rfl) ?_
    refine lv_sipush (v := 4096) hx hb dX9_remember_5 (by decide) ?_
    refine lv_icmp_ge (tgt := 18) hx hb dX9_remember_8 (by decide) (fun c_2 => ?_) (fun c_2 => ?_)
    · rw [if_pos c_2] at h
      obtain ⟨-, rfl, rfl⟩ := sm_inj h
      exact gx_rv (post := gq_v σ τ) S hr hlk hw dX9_remember_18 ⟨rfl, rfl⟩
    · rw [if_neg c_2] at h
      refine lv_aload_n hx hb dX9_remember_11 rfl (lv_at hl 0 rfl) ?_
      refine gx_getr (j := 161) S hK hw t_160 cl_10 2 (by decide) rfl mw_418 rfl dX9_remember_12 ?_
      refine lv_iload_n hx hb dX9_remember_15 rfl (lv_at hl 1 rfl) ?_
      refine lv_iload_n hx hb dX9_remember_16 rfl (lv_at hl 2 rfl) ?_
      obtain ⟨j_3, hj_3, hi_3, h⟩ := ck_some h
      refine gx_iast S hK gx_ok hw t_161 j_3 hj_3 hi_3 dX9_remember_17 (fun H locs hw => ?_)
      obtain ⟨σ_4, e_4, h⟩ := nm_some h
      rw [← e_4] at hw
      obtain ⟨-, rfl, rfl⟩ := sm_inj h
      exact gx_rv (post := gq_v σ_4 τ) S hr hlk hw dX9_remember_18 ⟨rfl, rfl⟩
set_option maxHeartbeats 4000000 in
set_option maxRecDepth 100000 in
theorem c_X9_remember (l : Launch) {E : gE} (N : Nat) (σ : gI) (τ : gJ) (x1 : Int32) (x2 : Int32) {r : Unit} {σ1 : gI} {τ1 : gJ} (h : B_X9_remember_0 N σ τ x1 x2 = some (r, σ1, τ1)) : gx_Mv l yX9_remember cX9_remember 3 none 0 gx_tb E σ τ [.ref (E.2.2 + 160), .int x1, .int x2] (gq_v σ1 τ1) := by
  refine gx_bv (by decide +kernel) (Nat.le_of_ble_eq_true rfl) ?_
  intro P9 e9 s m9 below meth C9 S hr hlk hK hw ls hl
  have hl : lv_has ls 3 [(0, .ref (E.2.2 + 160)), (1, .int x1), (2, .int x2)] := hl
  exact b_X9_remember_0 l S hr hlk hK N σ τ x1 x2 h hw hl
/-! X8_nextSet -/
def B_X8_nextSet_0 (N : Nat) (σ : gI) (τ : gJ) (x1 : Int32) : Option (Int32 × gI × gJ) := some ((x1 - (σ 3 7)) &&& (σ 3 7), σ, τ)
set_option maxHeartbeats 4000000 in
set_option maxRecDepth 100000 in
theorem b_X8_nextSet_0 (l : Launch) (S : CallFix P9 m9 C9 cX8_nextSet 2 s av.toArray gx_G RX8) (hr : meth.sig.returnType = (some .int)) (hlk : meth.locks = false) (hK : gx_K E s) (N : Nat) (σ : gI) (τ : gJ) (x1 : Int32) {r : Int32} {σ1 : gI} {τ1 : gJ} (h : B_X8_nextSet_0 N σ τ x1 = some (r, σ1, τ1)) {H : Heap} {locs : List Loc} {ls : Array Slot} (hw : gx_W gx_tb gx_tb.length E s σ τ H locs) (hl : lv_has ls 2 [(0, .ref (E.2.2 + 3)), (1, .int x1)]) : W P9 l e9 (gx_rm 0) s m9 av.toArray below meth C9 H locs 0 0 (gq_Qi below av s E r σ1 τ1) (F0 m9 0 ls []) := by
  have hx := S.1
  have hb := S.2.1
  unfold B_X8_nextSet_0 at h
  refine lv_iload_n hx hb dX8_nextSet_0 rfl (lv_at hl 1 rfl) ?_
  refine lv_aload_n hx hb dX8_nextSet_1 rfl (lv_at hl 0 rfl) ?_
  refine gx_get S hK hw t_3 cl_9 7 (by decide) rfl mw_156 rfl dX8_nextSet_2 ?_
  refine lv_isub hx hb dX8_nextSet_5 ?_
  refine lv_aload_n hx hb dX8_nextSet_6 rfl (lv_at hl 0 rfl) ?_
  refine gx_get S hK hw t_3 cl_9 7 (by decide) rfl mw_156 rfl dX8_nextSet_7 ?_
  refine lv_iand hx hb dX8_nextSet_10 ?_
  obtain ⟨rfl, rfl, rfl⟩ := sm_inj h
  exact gx_ri (post := gq_p ((x1 - (σ 3 7)) &&& (σ 3 7)) σ τ) (v := (x1 - (σ 3 7)) &&& (σ 3 7)) S hr hlk hw rfl dX8_nextSet_11 ⟨rfl, rfl, rfl⟩
set_option maxHeartbeats 4000000 in
set_option maxRecDepth 100000 in
theorem c_X8_nextSet (l : Launch) {E : gE} (N : Nat) (σ : gI) (τ : gJ) (x1 : Int32) {r : Int32} {σ1 : gI} {τ1 : gJ} (h : B_X8_nextSet_0 N σ τ x1 = some (r, σ1, τ1)) : gx_Mi l yX8_nextSet cX8_nextSet 2 (some .int) 0 gx_tb E σ τ [.ref (E.2.2 + 3), .int x1] (gq_p r σ1 τ1) := by
  refine gx_bi (by decide +kernel) (Nat.le_of_ble_eq_true rfl) ?_
  intro P9 e9 s m9 below meth C9 S hr hlk hK hw ls hl
  have hl : lv_has ls 2 [(0, .ref (E.2.2 + 3)), (1, .int x1)] := hl
  exact b_X8_nextSet_0 l S hr hlk hK N σ τ x1 h hw hl
/-! X9_forgetSets -/
def C_X9_forgetSets_4 (N : Nat) (rec_4 : gI → gJ → Int32 → Int32 → Option (Unit × gI × gJ)) (σ : gI) (τ : gJ) (x1 : Int32) (x2 : Int32) : Option (Unit × gI × gJ) := if σ 3 8 ≤ x2 then (some ((), σ, τ)) else (bd (B_X9_remember_0 N σ τ x1 (-2)) fun _ σ_2 τ_2 => bd (B_X8_nextSet_0 N σ_2 τ_2 x1) fun r_3 σ_3 τ_3 => nm (x2 + 1) fun v_4 => rec_4 σ_3 τ_3 r_3 v_4)
def H_X9_forgetSets_4 (N : Nat) : Nat → gI → gJ → Int32 → Int32 → Option (Unit × gI × gJ) := itn (fun rec_4 => C_X9_forgetSets_4 N rec_4) (fun _ _ _ _ => none)
def B_X9_forgetSets_0 (N : Nat) (σ : gI) (τ : gJ) : Option (Unit × gI × gJ) := H_X9_forgetSets_4 N N σ τ 0 0
set_option maxHeartbeats 4000000 in
set_option maxRecDepth 100000 in
theorem k_X9_forgetSets_4 (l : Launch) (S : CallFix P9 m9 C9 cX9_forgetSets 3 s av.toArray gx_G RX9) (hr : meth.sig.returnType = none) (hlk : meth.locks = false) (hK : gx_K E s) (N : Nat) (rec_4 : gI → gJ → Int32 → Int32 → Option (Unit × gI × gJ)) (hrec_4 : ∀ (σ : gI) (τ : gJ) (x1 : Int32) (x2 : Int32) (r : Unit) (σ1 : gI) (τ1 : gJ) (H : Heap) (locs : List Loc) (ls : Array Slot), rec_4 σ τ x1 x2 = some (r, σ1, τ1) → gx_W gx_tb gx_tb.length E s σ τ H locs → lv_has ls 3 [(0, .ref (E.2.2 + 160)), (1, .int x1), (2, .int x2)] → W P9 l e9 (gx_rm 1) s m9 av.toArray below meth C9 H locs 0 0 (gq_Qv below av s E σ1 τ1) (F0 m9 4 ls [])) (σ : gI) (τ : gJ) (x1 : Int32) (x2 : Int32) {r : Unit} {σ1 : gI} {τ1 : gJ} (h : C_X9_forgetSets_4 N rec_4 σ τ x1 x2 = some (r, σ1, τ1)) {H : Heap} {locs : List Loc} {ls : Array Slot} (hw : gx_W gx_tb gx_tb.length E s σ τ H locs) (hl : lv_has ls 3 [(0, .ref (E.2.2 + 160)), (1, .int x1), (2, .int x2)]) : W P9 l e9 (gx_rm 1) s m9 av.toArray below meth C9 H locs 0 0 (gq_Qv below av s E σ1 τ1) (F0 m9 4 ls []) := by
  have hx := S.1
  have hb := S.2.1
  unfold C_X9_forgetSets_4 at h
  refine lv_iload_n hx hb dX9_forgetSets_4 rfl (lv_at hl 2 rfl) ?_
  refine lv_aload_n hx hb dX9_forgetSets_5 rfl (lv_at hl 0 rfl) ?_
  refine gx_getr (j := 3) S hK hw t_160 cl_10 0 (by decide) rfl mw_416 rfl dX9_forgetSets_6 ?_
  refine gx_get S hK hw t_3 cl_9 8 (by decide) rfl mw_160 rfl dX9_forgetSets_9 ?_
  refine lv_icmp_ge (tgt := 37) hx hb dX9_forgetSets_12 (by decide) (fun c_1 => ?_) (fun c_1 => ?_)
  · rw [if_pos c_1] at h
    obtain ⟨-, rfl, rfl⟩ := sm_inj h
    exact gx_rv (post := gq_v σ τ) S hr hlk hw dX9_forgetSets_37 ⟨rfl, rfl⟩
  · rw [if_neg c_1] at h
    refine lv_aload_n hx hb dX9_forgetSets_15 rfl (lv_at hl 0 rfl) ?_
    refine lv_iload_n hx hb dX9_forgetSets_16 rfl (lv_at hl 1 rfl) ?_
    refine lv_bipush (v := (-2)) hx hb dX9_forgetSets_17 (by decide) ?_
    obtain ⟨u_2, σ_2, τ_2, q_2, h⟩ := bd_some h
    refine gx_cVv (As := [.int x1, .int (-2)]) (rest := []) S hK gx_ok hw (c_X9_remember l (E := E) N σ τ x1 (-2) q_2) cw_X9_121 t_160 cl_10 ⟨Nat.le_of_ble_eq_true rfl, Nat.le_of_ble_eq_true rfl⟩ rfl hl.1 rfl (Nat.le_of_ble_eq_true rfl) ⟨Nat.le_of_ble_eq_true rfl, Nat.le_of_ble_eq_true rfl⟩ dX9_forgetSets_19 (fun σ9 τ9 H locs hp hw => ?_)
    obtain ⟨rfl, rfl⟩ := hp
    refine lv_aload_n hx hb dX9_forgetSets_22 rfl (lv_at hl 0 rfl) ?_
    refine gx_getr (j := 3) S hK hw t_160 cl_10 0 (by decide) rfl mw_416 rfl dX9_forgetSets_23 ?_
    refine lv_iload_n hx hb dX9_forgetSets_26 rfl (lv_at hl 1 rfl) ?_
    obtain ⟨r_3, σ_3, τ_3, q_3, h⟩ := bd_some h
    refine gx_cVi (As := [.int x1]) (rest := []) S hK gx_ok hw (c_X8_nextSet l (E := E) N σ_2 τ_2 x1 q_3) cw_X9_125 t_3 cl_9 ⟨Nat.le_of_ble_eq_true rfl, Nat.le_of_ble_eq_true rfl⟩ rfl hl.1 rfl (Nat.le_of_ble_eq_true rfl) ⟨Nat.le_of_ble_eq_true rfl, Nat.le_of_ble_eq_true rfl⟩ dX9_forgetSets_27 (fun r9 σ9 τ9 H locs hp hw => ?_)
    obtain ⟨rfl, rfl, rfl⟩ := hp
    refine lv_istore_n (lv' := [(1, .int r_3), (0, .ref (E.2.2 + 160)), (2, .int x2)]) hx hb dX9_forgetSets_30 rfl hl (by decide) rfl (fun ls hl => ?_)
    refine lv_iinc (v := x2 + 1) (lv' := [(2, .int (x2 + 1)), (1, .int r_3), (0, .ref (E.2.2 + 160))]) hx hb dX9_forgetSets_31 hl (k := 2) rfl rfl (by decide) rfl (fun ls hl => ?_)
    obtain ⟨v_4, e_4, h⟩ := nm_some h
    have hl : lv_has ls 3 [(2, .int v_4), (1, .int r_3), (0, .ref (E.2.2 + 160))] := by rw [e_4]; exact hl
    refine lv_goto (tgt := 4) hx hb dX9_forgetSets_34 (by decide) ?_
    exact hrec_4 σ_3 τ_3 r_3 v_4 _ _ _ _ _ _ h hw (lv_sub hl [2, 1, 0] rfl)
set_option maxHeartbeats 4000000 in
set_option maxRecDepth 100000 in
theorem h_X9_forgetSets_4 (l : Launch) (S : CallFix P9 m9 C9 cX9_forgetSets 3 s av.toArray gx_G RX9) (hr : meth.sig.returnType = none) (hlk : meth.locks = false) (hK : gx_K E s) (N : Nat) : ∀ (n : Nat) (σ : gI) (τ : gJ) (x1 : Int32) (x2 : Int32) (r : Unit) (σ1 : gI) (τ1 : gJ), H_X9_forgetSets_4 N n σ τ x1 x2 = some (r, σ1, τ1) → ∀ (H : Heap) (locs : List Loc) (ls : Array Slot), gx_W gx_tb gx_tb.length E s σ τ H locs → lv_has ls 3 [(0, .ref (E.2.2 + 160)), (1, .int x1), (2, .int x2)] → W P9 l e9 (gx_rm 1) s m9 av.toArray below meth C9 H locs 0 0 (gq_Qv below av s E σ1 τ1) (F0 m9 4 ls []) := by
  intro n
  induction n with
  | zero => intro σ τ x1 x2 r σ1 τ1 h; cases h
  | succ n ih =>
    intro σ τ x1 x2 r σ1 τ1 h H locs ls hw hl
    exact k_X9_forgetSets_4 l S hr hlk hK N (H_X9_forgetSets_4 N n) (fun σ τ x1 x2 r σ1 τ1 H locs ls h hw hl => ih σ τ x1 x2 r σ1 τ1 h H locs ls hw hl) σ τ x1 x2 h hw hl
set_option maxHeartbeats 4000000 in
set_option maxRecDepth 100000 in
theorem b_X9_forgetSets_0 (l : Launch) (S : CallFix P9 m9 C9 cX9_forgetSets 3 s av.toArray gx_G RX9) (hr : meth.sig.returnType = none) (hlk : meth.locks = false) (hK : gx_K E s) (N : Nat) (σ : gI) (τ : gJ) {r : Unit} {σ1 : gI} {τ1 : gJ} (h : B_X9_forgetSets_0 N σ τ = some (r, σ1, τ1)) {H : Heap} {locs : List Loc} {ls : Array Slot} (hw : gx_W gx_tb gx_tb.length E s σ τ H locs) (hl : lv_has ls 3 [(0, .ref (E.2.2 + 160))]) : W P9 l e9 (gx_rm 1) s m9 av.toArray below meth C9 H locs 0 0 (gq_Qv below av s E σ1 τ1) (F0 m9 0 ls []) := by
  have hx := S.1
  have hb := S.2.1
  unfold B_X9_forgetSets_0 at h
  refine lv_iconst (v := 0) hx hb dX9_forgetSets_0 (by decide) ?_
  refine lv_istore_n (lv' := [(1, .int 0), (0, .ref (E.2.2 + 160))]) hx hb dX9_forgetSets_1 rfl hl (by decide) rfl (fun ls hl => ?_)
  refine lv_iconst (v := 0) hx hb dX9_forgetSets_2 (by decide) ?_
  refine lv_istore_n (lv' := [(2, .int 0), (1, .int 0), (0, .ref (E.2.2 + 160))]) hx hb dX9_forgetSets_3 rfl hl (by decide) rfl (fun ls hl => ?_)
  exact h_X9_forgetSets_4 l S hr hlk hK N N σ τ 0 0 _ _ _ h _ _ _ hw (lv_sub hl [2, 1, 0] rfl)
set_option maxHeartbeats 4000000 in
set_option maxRecDepth 100000 in
theorem c_X9_forgetSets (l : Launch) {E : gE} (N : Nat) (σ : gI) (τ : gJ) {r : Unit} {σ1 : gI} {τ1 : gJ} (h : B_X9_forgetSets_0 N σ τ = some (r, σ1, τ1)) : gx_Mv l yX9_forgetSets cX9_forgetSets 3 none 1 gx_tb E σ τ [.ref (E.2.2 + 160)] (gq_v σ1 τ1) := by
  refine gx_bv (by decide +kernel) (Nat.le_of_ble_eq_true rfl) ?_
  intro P9 e9 s m9 below meth C9 S hr hlk hK hw ls hl
  have hl : lv_has ls 3 [(0, .ref (E.2.2 + 160))] := hl
  exact b_X9_forgetSets_0 l S hr hlk hK N σ τ h hw hl
/-! X9_spread -/
def C_X9_spread_32 (N : Nat) (rec_32 : gI → gJ → Int32 → Int32 → Int32 → Int32 → Int32 → Int32 → Option (Unit × gI × gJ)) (σ : gI) (τ : gJ) (x1 : Int32) (x2 : Int32) (x3 : Int32) (x4 : Int32) (x5 : Int32) (x6 : Int32) : Option (Unit × gI × gJ) := if x4 ≤ x6 then (some ((), σ, τ)) else (bd (B_X9_remember_0 N σ τ ((x1 &&& (x3 ^^^ (-1))) ||| x5) x2) fun _ σ_2 τ_2 => nm ((x5 - x3) &&& x3) fun v_3 => nm (x6 + 1) fun v_4 => rec_32 σ_2 τ_2 x1 x2 x3 x4 v_3 v_4)
def H_X9_spread_32 (N : Nat) : Nat → gI → gJ → Int32 → Int32 → Int32 → Int32 → Int32 → Int32 → Option (Unit × gI × gJ) := itn (fun rec_32 => C_X9_spread_32 N rec_32) (fun _ _ _ _ _ _ _ _ => none)
def B_X9_spread_0 (N : Nat) (σ : gI) (τ : gJ) (x1 : Int32) (x2 : Int32) : Option (Unit × gI × gJ) := nm ((σ 3 7) &&& ((σ 158 4) ^^^ (-1))) fun v_1 => bd (B_J6_bitCount_0f7a4_0 N σ τ v_1) fun r_2 σ_2 τ_2 => nm (1 <<< (r_2 &&& 31)) fun v_3 => H_X9_spread_32 N N σ_2 τ_2 x1 x2 v_1 v_3 0 0
set_option maxHeartbeats 4000000 in
set_option maxRecDepth 100000 in
theorem k_X9_spread_32 (l : Launch) (S : CallFix P9 m9 C9 cX9_spread 7 s av.toArray gx_G RX9) (hr : meth.sig.returnType = none) (hlk : meth.locks = false) (hK : gx_K E s) (N : Nat) (rec_32 : gI → gJ → Int32 → Int32 → Int32 → Int32 → Int32 → Int32 → Option (Unit × gI × gJ)) (hrec_32 : ∀ (σ : gI) (τ : gJ) (x1 : Int32) (x2 : Int32) (x3 : Int32) (x4 : Int32) (x5 : Int32) (x6 : Int32) (r : Unit) (σ1 : gI) (τ1 : gJ) (H : Heap) (locs : List Loc) (ls : Array Slot), rec_32 σ τ x1 x2 x3 x4 x5 x6 = some (r, σ1, τ1) → gx_W gx_tb gx_tb.length E s σ τ H locs → lv_has ls 7 [(0, .ref (E.2.2 + 160)), (1, .int x1), (2, .int x2), (3, .int x3), (4, .int x4), (5, .int x5), (6, .int x6)] → W P9 l e9 (gx_rm 1) s m9 av.toArray below meth C9 H locs 0 0 (gq_Qv below av s E σ1 τ1) (F0 m9 32 ls [])) (σ : gI) (τ : gJ) (x1 : Int32) (x2 : Int32) (x3 : Int32) (x4 : Int32) (x5 : Int32) (x6 : Int32) {r : Unit} {σ1 : gI} {τ1 : gJ} (h : C_X9_spread_32 N rec_32 σ τ x1 x2 x3 x4 x5 x6 = some (r, σ1, τ1)) {H : Heap} {locs : List Loc} {ls : Array Slot} (hw : gx_W gx_tb gx_tb.length E s σ τ H locs) (hl : lv_has ls 7 [(0, .ref (E.2.2 + 160)), (1, .int x1), (2, .int x2), (3, .int x3), (4, .int x4), (5, .int x5), (6, .int x6)]) : W P9 l e9 (gx_rm 1) s m9 av.toArray below meth C9 H locs 0 0 (gq_Qv below av s E σ1 τ1) (F0 m9 32 ls []) := by
  have hx := S.1
  have hb := S.2.1
  unfold C_X9_spread_32 at h
  refine lv_iload hx hb dX9_spread_32 (lv_at hl 6 rfl) ?_
  refine lv_iload hx hb dX9_spread_34 (lv_at hl 4 rfl) ?_
  refine lv_icmp_ge (tgt := 66) hx hb dX9_spread_36 (by decide) (fun c_1 => ?_) (fun c_1 => ?_)
  · rw [if_pos c_1] at h
    obtain ⟨-, rfl, rfl⟩ := sm_inj h
    exact gx_rv (post := gq_v σ τ) S hr hlk hw dX9_spread_66 ⟨rfl, rfl⟩
  · rw [if_neg c_1] at h
    refine lv_aload_n hx hb dX9_spread_39 rfl (lv_at hl 0 rfl) ?_
    refine lv_iload_n hx hb dX9_spread_40 rfl (lv_at hl 1 rfl) ?_
    refine lv_iload_n hx hb dX9_spread_41 rfl (lv_at hl 3 rfl) ?_
    refine lv_iconst (v := (-1)) hx hb dX9_spread_42 (by decide) ?_
    refine lv_ixor hx hb dX9_spread_43 ?_
    refine lv_iand hx hb dX9_spread_44 ?_
    refine lv_iload hx hb dX9_spread_45 (lv_at hl 5 rfl) ?_
    refine lv_ior hx hb dX9_spread_47 ?_
    refine lv_iload_n hx hb dX9_spread_48 rfl (lv_at hl 2 rfl) ?_
    obtain ⟨u_2, σ_2, τ_2, q_2, h⟩ := bd_some h
    refine gx_cVv (As := [.int ((x1 &&& (x3 ^^^ (-1))) ||| x5), .int x2]) (rest := []) S hK gx_ok hw (c_X9_remember l (E := E) N σ τ ((x1 &&& (x3 ^^^ (-1))) ||| x5) x2 q_2) cw_X9_121 t_160 cl_10 ⟨Nat.le_of_ble_eq_true rfl, Nat.le_of_ble_eq_true rfl⟩ rfl hl.1 rfl (Nat.le_of_ble_eq_true rfl) ⟨Nat.le_of_ble_eq_true rfl, Nat.le_of_ble_eq_true rfl⟩ dX9_spread_49 (fun σ9 τ9 H locs hp hw => ?_)
    obtain ⟨rfl, rfl⟩ := hp
    refine lv_iload hx hb dX9_spread_52 (lv_at hl 5 rfl) ?_
    refine lv_iload_n hx hb dX9_spread_54 rfl (lv_at hl 3 rfl) ?_
    refine lv_isub hx hb dX9_spread_55 ?_
    refine lv_iload_n hx hb dX9_spread_56 rfl (lv_at hl 3 rfl) ?_
    refine lv_iand hx hb dX9_spread_57 ?_
    refine lv_istore (lv' := [(5, .int ((x5 - x3) &&& x3)), (0, .ref (E.2.2 + 160)), (1, .int x1), (2, .int x2), (3, .int x3), (4, .int x4), (6, .int x6)]) hx hb dX9_spread_58 hl (by decide) rfl (fun ls hl => ?_)
    obtain ⟨v_3, e_3, h⟩ := nm_some h
    have hl : lv_has ls 7 [(5, .int v_3), (0, .ref (E.2.2 + 160)), (1, .int x1), (2, .int x2), (3, .int x3), (4, .int x4), (6, .int x6)] := by rw [e_3]; exact hl
    refine lv_iinc (v := x6 + 1) (lv' := [(6, .int (x6 + 1)), (5, .int v_3), (0, .ref (E.2.2 + 160)), (1, .int x1), (2, .int x2), (3, .int x3), (4, .int x4)]) hx hb dX9_spread_60 hl (k := 6) rfl rfl (by decide) rfl (fun ls hl => ?_)
    obtain ⟨v_4, e_4, h⟩ := nm_some h
    have hl : lv_has ls 7 [(6, .int v_4), (5, .int v_3), (0, .ref (E.2.2 + 160)), (1, .int x1), (2, .int x2), (3, .int x3), (4, .int x4)] := by rw [e_4]; exact hl
    refine lv_goto (tgt := 32) hx hb dX9_spread_63 (by decide) ?_
    exact hrec_32 σ_2 τ_2 x1 x2 x3 x4 v_3 v_4 _ _ _ _ _ _ h hw (lv_sub hl [2, 3, 4, 5, 6, 1, 0] rfl)
set_option maxHeartbeats 4000000 in
set_option maxRecDepth 100000 in
theorem h_X9_spread_32 (l : Launch) (S : CallFix P9 m9 C9 cX9_spread 7 s av.toArray gx_G RX9) (hr : meth.sig.returnType = none) (hlk : meth.locks = false) (hK : gx_K E s) (N : Nat) : ∀ (n : Nat) (σ : gI) (τ : gJ) (x1 : Int32) (x2 : Int32) (x3 : Int32) (x4 : Int32) (x5 : Int32) (x6 : Int32) (r : Unit) (σ1 : gI) (τ1 : gJ), H_X9_spread_32 N n σ τ x1 x2 x3 x4 x5 x6 = some (r, σ1, τ1) → ∀ (H : Heap) (locs : List Loc) (ls : Array Slot), gx_W gx_tb gx_tb.length E s σ τ H locs → lv_has ls 7 [(0, .ref (E.2.2 + 160)), (1, .int x1), (2, .int x2), (3, .int x3), (4, .int x4), (5, .int x5), (6, .int x6)] → W P9 l e9 (gx_rm 1) s m9 av.toArray below meth C9 H locs 0 0 (gq_Qv below av s E σ1 τ1) (F0 m9 32 ls []) := by
  intro n
  induction n with
  | zero => intro σ τ x1 x2 x3 x4 x5 x6 r σ1 τ1 h; cases h
  | succ n ih =>
    intro σ τ x1 x2 x3 x4 x5 x6 r σ1 τ1 h H locs ls hw hl
    exact k_X9_spread_32 l S hr hlk hK N (H_X9_spread_32 N n) (fun σ τ x1 x2 x3 x4 x5 x6 r σ1 τ1 H locs ls h hw hl => ih σ τ x1 x2 x3 x4 x5 x6 r σ1 τ1 h H locs ls hw hl) σ τ x1 x2 x3 x4 x5 x6 h hw hl
set_option maxHeartbeats 4000000 in
set_option maxRecDepth 100000 in
theorem b_X9_spread_0 (l : Launch) (S : CallFix P9 m9 C9 cX9_spread 7 s av.toArray gx_G RX9) (hr : meth.sig.returnType = none) (hlk : meth.locks = false) (hK : gx_K E s) (N : Nat) (σ : gI) (τ : gJ) (x1 : Int32) (x2 : Int32) {r : Unit} {σ1 : gI} {τ1 : gJ} (h : B_X9_spread_0 N σ τ x1 x2 = some (r, σ1, τ1)) {H : Heap} {locs : List Loc} {ls : Array Slot} (hw : gx_W gx_tb gx_tb.length E s σ τ H locs) (hl : lv_has ls 7 [(0, .ref (E.2.2 + 160)), (1, .int x1), (2, .int x2)]) : W P9 l e9 (gx_rm 1) s m9 av.toArray below meth C9 H locs 0 0 (gq_Qv below av s E σ1 τ1) (F0 m9 0 ls []) := by
  have hx := S.1
  have hb := S.2.1
  unfold B_X9_spread_0 at h
  refine lv_aload_n hx hb dX9_spread_0 rfl (lv_at hl 0 rfl) ?_
  refine gx_getr (j := 3) S hK hw t_160 cl_10 0 (by decide) rfl mw_416 rfl dX9_spread_1 ?_
  refine gx_get S hK hw t_3 cl_9 7 (by decide) rfl mw_157 rfl dX9_spread_4 ?_
  refine lv_aload_n hx hb dX9_spread_7 rfl (lv_at hl 0 rfl) ?_
  refine gx_getr (j := 158) S hK hw t_160 cl_10 1 (by decide) rfl mw_417 rfl dX9_spread_8 ?_
  refine gx_get S hK hw t_158 cl_2 4 (by decide) rfl mw_375 rfl dX9_spread_11 ?_
  refine lv_iconst (v := (-1)) hx hb dX9_spread_14 (by decide) ?_
  refine lv_ixor hx hb dX9_spread_15 ?_
  refine lv_iand hx hb dX9_spread_16 ?_
  refine lv_istore_n (lv' := [(3, .int ((σ 3 7) &&& ((σ 158 4) ^^^ (-1)))), (0, .ref (E.2.2 + 160)), (1, .int x1), (2, .int x2)]) hx hb dX9_spread_17 rfl hl (by decide) rfl (fun ls hl => ?_)
  obtain ⟨v_1, e_1, h⟩ := nm_some h
  have hl : lv_has ls 7 [(3, .int v_1), (0, .ref (E.2.2 + 160)), (1, .int x1), (2, .int x2)] := by rw [e_1]; exact hl
  refine lv_iconst (v := 1) hx hb dX9_spread_18 (by decide) ?_
  refine lv_iload_n hx hb dX9_spread_19 rfl (lv_at hl 0 rfl) ?_
  obtain ⟨r_2, σ_2, τ_2, q_2, h⟩ := bd_some h
  refine gx_cSi (As := [.int v_1]) (rest := [.int 1]) S hK gx_ok hw (c_J6_bitCount_0f7a4 l (E := E) N σ τ v_1 q_2) cw_X9_137 ⟨Nat.le_of_ble_eq_true rfl, Nat.le_of_ble_eq_true rfl⟩ rfl hl.1 rfl (Nat.le_of_ble_eq_true rfl) ⟨Nat.le_of_ble_eq_true rfl, Nat.le_of_ble_eq_true rfl⟩ dX9_spread_20 (fun r9 σ9 τ9 H locs hp hw => ?_)
  obtain ⟨rfl, rfl, rfl⟩ := hp
  refine lv_ishl hx hb dX9_spread_23 ?_
  refine lv_istore (lv' := [(4, .int (1 <<< (r_2 &&& 31))), (3, .int v_1), (0, .ref (E.2.2 + 160)), (1, .int x1), (2, .int x2)]) hx hb dX9_spread_24 hl (by decide) rfl (fun ls hl => ?_)
  obtain ⟨v_3, e_3, h⟩ := nm_some h
  have hl : lv_has ls 7 [(4, .int v_3), (3, .int v_1), (0, .ref (E.2.2 + 160)), (1, .int x1), (2, .int x2)] := by rw [e_3]; exact hl
  refine lv_iconst (v := 0) hx hb dX9_spread_26 (by decide) ?_
  refine lv_istore (lv' := [(5, .int 0), (4, .int v_3), (3, .int v_1), (0, .ref (E.2.2 + 160)), (1, .int x1), (2, .int x2)]) hx hb dX9_spread_27 hl (by decide) rfl (fun ls hl => ?_)
  refine lv_iconst (v := 0) hx hb dX9_spread_29 (by decide) ?_
  refine lv_istore (lv' := [(6, .int 0), (5, .int 0), (4, .int v_3), (3, .int v_1), (0, .ref (E.2.2 + 160)), (1, .int x1), (2, .int x2)]) hx hb dX9_spread_30 hl (by decide) rfl (fun ls hl => ?_)
  exact h_X9_spread_32 l S hr hlk hK N N σ_2 τ_2 x1 x2 v_1 v_3 0 0 _ _ _ h _ _ _ hw (lv_sub hl [4, 5, 6, 3, 2, 1, 0] rfl)
set_option maxHeartbeats 4000000 in
set_option maxRecDepth 100000 in
theorem c_X9_spread (l : Launch) {E : gE} (N : Nat) (σ : gI) (τ : gJ) (x1 : Int32) (x2 : Int32) {r : Unit} {σ1 : gI} {τ1 : gJ} (h : B_X9_spread_0 N σ τ x1 x2 = some (r, σ1, τ1)) : gx_Mv l yX9_spread cX9_spread 7 none 1 gx_tb E σ τ [.ref (E.2.2 + 160), .int x1, .int x2] (gq_v σ1 τ1) := by
  refine gx_bv (by decide +kernel) (Nat.le_of_ble_eq_true rfl) ?_
  intro P9 e9 s m9 below meth C9 S hr hlk hK hw ls hl
  have hl : lv_has ls 7 [(0, .ref (E.2.2 + 160)), (1, .int x1), (2, .int x2)] := hl
  exact b_X9_spread_0 l S hr hlk hK N σ τ x1 x2 h hw hl
/-! X9_outcome -/
def B_X9_outcome_0 (N : Nat) (σ : gI) (τ : gJ) (x1 : Int32) : Option (Int32 × gI × gJ) := if x1 < 0 then (some ((-1), σ, τ)) else (if x1 < 4096 then (ck x1 4096 fun j_3 => if σ 161 j_3 = (-2) then (bd (B_X9_go_0 N σ τ x1) fun r_5 σ_5 τ_5 => bd (B_X9_spread_0 N σ_5 τ_5 x1 r_5) fun _ σ_6 τ_6 => some (σ_6 161 j_3, σ_6, τ_6)) else (some (σ 161 j_3, σ, τ))) else (some ((-1), σ, τ)))
set_option maxHeartbeats 4000000 in
set_option maxRecDepth 100000 in
theorem b_X9_outcome_0 (l : Launch) (S : CallFix P9 m9 C9 cX9_outcome 2 s av.toArray gx_G RX9) (hr : meth.sig.returnType = (some .int)) (hlk : meth.locks = false) (hK : gx_K E s) (N : Nat) (σ : gI) (τ : gJ) (x1 : Int32) {r : Int32} {σ1 : gI} {τ1 : gJ} (h : B_X9_outcome_0 N σ τ x1 = some (r, σ1, τ1)) {H : Heap} {locs : List Loc} {ls : Array Slot} (hw : gx_W gx_tb gx_tb.length E s σ τ H locs) (hl : lv_has ls 2 [(0, .ref (E.2.2 + 160)), (1, .int x1)]) : W P9 l e9 (gx_rm 5) s m9 av.toArray below meth C9 H locs 0 0 (gq_Qi below av s E r σ1 τ1) (F0 m9 0 ls []) := by
  have hx := S.1
  have hb := S.2.1
  unfold B_X9_outcome_0 at h
  refine lv_iload_n hx hb dX9_outcome_0 rfl (lv_at hl 1 rfl) ?_
  refine lv_if_lt (tgt := 11) hx hb dX9_outcome_1 (by decide) (fun c_1 => ?_) (fun c_1 => ?_)
  · rw [if_pos c_1] at h
    refine lv_iconst (v := (-1)) hx hb dX9_outcome_11 (by decide) ?_
    obtain ⟨rfl, rfl, rfl⟩ := sm_inj h
    exact gx_ri (post := gq_p (-1) σ τ) (v := (-1)) S hr hlk hw rfl dX9_outcome_12 ⟨rfl, rfl, rfl⟩
  · rw [if_neg c_1] at h
    refine lv_iload_n hx hb dX9_outcome_4 rfl (lv_at hl 1 rfl) ?_
    refine lv_sipush (v := 4096) hx hb dX9_outcome_5 (by decide) ?_
    refine lv_icmp_lt (tgt := 13) hx hb dX9_outcome_8 (by decide) (fun c_2 => ?_) (fun c_2 => ?_)
    · rw [if_pos c_2] at h
      refine lv_aload_n hx hb dX9_outcome_13 rfl (lv_at hl 0 rfl) ?_
      refine gx_getr (j := 161) S hK hw t_160 cl_10 2 (by decide) rfl mw_418 rfl dX9_outcome_14 ?_
      refine lv_iload_n hx hb dX9_outcome_17 rfl (lv_at hl 1 rfl) ?_
      obtain ⟨j_3, hj_3, hi_3, h⟩ := ck_some h
      refine gx_iald S hK hw t_161 j_3 hj_3 hi_3 dX9_outcome_18 ?_
      refine lv_bipush (v := (-2)) hx hb dX9_outcome_19 (by decide) ?_
      refine lv_icmp_ne (tgt := 34) hx hb dX9_outcome_21 (by decide) (fun c_4 => ?_) (fun c_4 => ?_)
      · rw [if_neg c_4] at h
        refine lv_aload_n hx hb dX9_outcome_34 rfl (lv_at hl 0 rfl) ?_
        refine gx_getr (j := 161) S hK hw t_160 cl_10 2 (by decide) rfl mw_418 rfl dX9_outcome_35 ?_
        refine lv_iload_n hx hb dX9_outcome_38 rfl (lv_at hl 1 rfl) ?_
        refine gx_iald S hK hw t_161 j_3 hj_3 hi_3 dX9_outcome_39 ?_
        obtain ⟨rfl, rfl, rfl⟩ := sm_inj h
        exact gx_ri (post := gq_p (σ 161 j_3) σ τ) (v := σ 161 j_3) S hr hlk hw rfl dX9_outcome_40 ⟨rfl, rfl, rfl⟩
      · rw [if_pos c_4] at h
        refine lv_aload_n hx hb dX9_outcome_24 rfl (lv_at hl 0 rfl) ?_
        refine lv_iload_n hx hb dX9_outcome_25 rfl (lv_at hl 1 rfl) ?_
        refine lv_aload_n hx hb dX9_outcome_26 rfl (lv_at hl 0 rfl) ?_
        refine lv_iload_n hx hb dX9_outcome_27 rfl (lv_at hl 1 rfl) ?_
        obtain ⟨r_5, σ_5, τ_5, q_5, h⟩ := bd_some h
        refine gx_cVi (As := [.int x1]) (rest := [.int x1, .ref (E.2.2 + 160)]) S hK gx_ok hw (c_X9_go l (E := E) N σ τ x1 q_5) cw_X9_128 t_160 cl_10 ⟨Nat.le_of_ble_eq_true rfl, Nat.le_of_ble_eq_true rfl⟩ rfl hl.1 rfl (Nat.le_of_ble_eq_true rfl) ⟨Nat.le_of_ble_eq_true rfl, Nat.le_of_ble_eq_true rfl⟩ dX9_outcome_28 (fun r9 σ9 τ9 H locs hp hw => ?_)
        obtain ⟨rfl, rfl, rfl⟩ := hp
        obtain ⟨u_6, σ_6, τ_6, q_6, h⟩ := bd_some h
        refine gx_cVv (As := [.int x1, .int r_5]) (rest := []) S hK gx_ok hw (c_X9_spread l (E := E) N σ_5 τ_5 x1 r_5 q_6) cw_X9_131 t_160 cl_10 ⟨Nat.le_of_ble_eq_true rfl, Nat.le_of_ble_eq_true rfl⟩ rfl hl.1 rfl (Nat.le_of_ble_eq_true rfl) ⟨Nat.le_of_ble_eq_true rfl, Nat.le_of_ble_eq_true rfl⟩ dX9_outcome_31 (fun σ9 τ9 H locs hp hw => ?_)
        obtain ⟨rfl, rfl⟩ := hp
        refine lv_aload_n hx hb dX9_outcome_34 rfl (lv_at hl 0 rfl) ?_
        refine gx_getr (j := 161) S hK hw t_160 cl_10 2 (by decide) rfl mw_418 rfl dX9_outcome_35 ?_
        refine lv_iload_n hx hb dX9_outcome_38 rfl (lv_at hl 1 rfl) ?_
        refine gx_iald S hK hw t_161 j_3 hj_3 hi_3 dX9_outcome_39 ?_
        obtain ⟨rfl, rfl, rfl⟩ := sm_inj h
        exact gx_ri (post := gq_p (σ_6 161 j_3) σ_6 τ_6) (v := σ_6 161 j_3) S hr hlk hw rfl dX9_outcome_40 ⟨rfl, rfl, rfl⟩
    · rw [if_neg c_2] at h
      refine lv_iconst (v := (-1)) hx hb dX9_outcome_11 (by decide) ?_
      obtain ⟨rfl, rfl, rfl⟩ := sm_inj h
      exact gx_ri (post := gq_p (-1) σ τ) (v := (-1)) S hr hlk hw rfl dX9_outcome_12 ⟨rfl, rfl, rfl⟩
set_option maxHeartbeats 4000000 in
set_option maxRecDepth 100000 in
theorem c_X9_outcome (l : Launch) {E : gE} (N : Nat) (σ : gI) (τ : gJ) (x1 : Int32) {r : Int32} {σ1 : gI} {τ1 : gJ} (h : B_X9_outcome_0 N σ τ x1 = some (r, σ1, τ1)) : gx_Mi l yX9_outcome cX9_outcome 2 (some .int) 5 gx_tb E σ τ [.ref (E.2.2 + 160), .int x1] (gq_p r σ1 τ1) := by
  refine gx_bi (by decide +kernel) (Nat.le_of_ble_eq_true rfl) ?_
  intro P9 e9 s m9 below meth C9 S hr hlk hK hw ls hl
  have hl : lv_has ls 2 [(0, .ref (E.2.2 + 160)), (1, .int x1)] := hl
  exact b_X9_outcome_0 l S hr hlk hK N σ τ x1 h hw hl
/-! X11_firstGets -/
def C_X11_firstGets_41 (me_firstGets : gI → gJ → Int32 → Int32 → Int32 → Int32 → Option (Int32 × gI × gJ)) (N : Nat) (rec_41 : gI → gJ → Int32 → Int32 → Int32 → Int32 → Int32 → Int32 → Option (Int32 × gI × gJ)) (σ : gI) (τ : gJ) (x1 : Int32) (x2 : Int32) (x3 : Int32) (x4 : Int32) (x5 : Int32) (x6 : Int32) : Option (Int32 × gI × gJ) := if σ 3 6 ≤ x6 then (cb x5 <| some (x5, σ, τ)) else (if x5 = x4 then (cb x5 <| some (x5, σ, τ)) else (bd (B_X8_isFork_0 N σ τ x6) fun r_5 σ_5 τ_5 => if r_5 = 0 then (nm (x6 + 1) fun v_7 => rec_41 σ_5 τ_5 x1 x2 x3 x4 x5 v_7) else (if x4 = 0 then (bd (me_firstGets σ_5 τ_5 (x1 ^^^ (1 <<< (x6 &&& 31))) x2 (x3 - 1) 1) fun r_11 σ_11 τ_11 => nm (x6 + 1) fun v_12 => rec_41 σ_11 τ_11 x1 x2 x3 x4 r_11 v_12) else (bd (me_firstGets σ_5 τ_5 (x1 ^^^ (1 <<< (x6 &&& 31))) x2 (x3 - 1) 0) fun r_9 σ_9 τ_9 => nm (x6 + 1) fun v_10 => rec_41 σ_9 τ_9 x1 x2 x3 x4 r_9 v_10))))
def H_X11_firstGets_41 (me_firstGets : gI → gJ → Int32 → Int32 → Int32 → Int32 → Option (Int32 × gI × gJ)) (N : Nat) : Nat → gI → gJ → Int32 → Int32 → Int32 → Int32 → Int32 → Int32 → Option (Int32 × gI × gJ) := itn (fun rec_41 => C_X11_firstGets_41 me_firstGets N rec_41) (fun _ _ _ _ _ _ _ _ => none)
def B_X11_firstGets_0 (me_firstGets : gI → gJ → Int32 → Int32 → Int32 → Int32 → Option (Int32 × gI × gJ)) (N : Nat) (σ : gI) (τ : gJ) (x1 : Int32) (x2 : Int32) (x3 : Int32) (x4 : Int32) : Option (Int32 × gI × gJ) := if 0 < x3 then (if x4 = 0 then (bd (me_firstGets σ τ x1 x2 (x3 - 1) 1) fun r_4 σ_4 τ_4 => H_X11_firstGets_41 me_firstGets N N σ_4 τ_4 x1 x2 x3 x4 r_4 0) else (bd (me_firstGets σ τ x1 x2 (x3 - 1) 0) fun r_3 σ_3 τ_3 => H_X11_firstGets_41 me_firstGets N N σ_3 τ_3 x1 x2 x3 x4 r_3 0)) else (bd (B_X9_outcome_0 N σ τ x1) fun r_5 σ_5 τ_5 => bd (B_X11_isIn_0 N σ_5 τ_5 r_5 x2) fun r_6 σ_6 τ_6 => cb r_6 <| some (r_6, σ_6, τ_6))
def R_X11_firstGets (N D : Nat) : gI → gJ → Int32 → Int32 → Int32 → Int32 → Option (Int32 × gI × gJ) := itn (fun me_firstGets => B_X11_firstGets_0 me_firstGets N) (fun _ _ _ _ _ _ => none) D
set_option maxHeartbeats 4000000 in
set_option maxRecDepth 100000 in
theorem k_X11_firstGets_41 (l : Launch) (dd : Nat) (me_firstGets : gI → gJ → Int32 → Int32 → Int32 → Int32 → Option (Int32 × gI × gJ)) (hme_firstGets : ∀ (σ : gI) (τ : gJ) (x1 : Int32) (x2 : Int32) (x3 : Int32) (x4 : Int32) (r : Int32) (σ1 : gI) (τ1 : gJ), me_firstGets σ τ x1 x2 x3 x4 = some (r, σ1, τ1) → gx_Mi l yX11_firstGets cX11_firstGets 7 (some .boolean) (dd) gx_tb E σ τ [.ref (E.2.2 + 0), .int x1, .int x2, .int x3, .int x4] (gq_p r σ1 τ1)) (S : CallFix P9 m9 C9 cX11_firstGets 7 s av.toArray gx_G RX11) (hr : meth.sig.returnType = (some .boolean)) (hlk : meth.locks = false) (hK : gx_K E s) (N : Nat) (rec_41 : gI → gJ → Int32 → Int32 → Int32 → Int32 → Int32 → Int32 → Option (Int32 × gI × gJ)) (hrec_41 : ∀ (σ : gI) (τ : gJ) (x1 : Int32) (x2 : Int32) (x3 : Int32) (x4 : Int32) (x5 : Int32) (x6 : Int32) (r : Int32) (σ1 : gI) (τ1 : gJ) (H : Heap) (locs : List Loc) (ls : Array Slot), rec_41 σ τ x1 x2 x3 x4 x5 x6 = some (r, σ1, τ1) → gx_W gx_tb gx_tb.length E s σ τ H locs → lv_has ls 7 [(0, .ref (E.2.2 + 0)), (1, .int x1), (2, .int x2), (3, .int x3), (4, .int x4), (5, .int x5), (6, .int x6)] → W P9 l e9 (gx_rm (dd + 6)) s m9 av.toArray below meth C9 H locs 0 0 (gq_Qi below av s E r σ1 τ1) (F0 m9 41 ls [])) (σ : gI) (τ : gJ) (x1 : Int32) (x2 : Int32) (x3 : Int32) (x4 : Int32) (x5 : Int32) (x6 : Int32) {r : Int32} {σ1 : gI} {τ1 : gJ} (h : C_X11_firstGets_41 me_firstGets N rec_41 σ τ x1 x2 x3 x4 x5 x6 = some (r, σ1, τ1)) {H : Heap} {locs : List Loc} {ls : Array Slot} (hw : gx_W gx_tb gx_tb.length E s σ τ H locs) (hl : lv_has ls 7 [(0, .ref (E.2.2 + 0)), (1, .int x1), (2, .int x2), (3, .int x3), (4, .int x4), (5, .int x5), (6, .int x6)]) : W P9 l e9 (gx_rm (dd + 6)) s m9 av.toArray below meth C9 H locs 0 0 (gq_Qi below av s E r σ1 τ1) (F0 m9 41 ls []) := by
  have hx := S.1
  have hb := S.2.1
  unfold C_X11_firstGets_41 at h
  refine lv_iload hx hb dX11_firstGets_41 (lv_at hl 6 rfl) ?_
  refine lv_aload_n hx hb dX11_firstGets_43 rfl (lv_at hl 0 rfl) ?_
  refine gx_getr (j := 3) S hK hw t_0 cl_12 1 (by decide) rfl mw_448 rfl dX11_firstGets_44 ?_
  refine gx_get S hK hw t_3 cl_9 6 (by decide) rfl mw_155 rfl dX11_firstGets_47 ?_
  refine lv_icmp_ge (tgt := 104) hx hb dX11_firstGets_50 (by decide) (fun c_1 => ?_) (fun c_1 => ?_)
  · rw [if_pos c_1] at h
    refine lv_iload hx hb dX11_firstGets_104 (lv_at hl 5 rfl) ?_
    obtain ⟨hq_2, h⟩ := cb_some h
    obtain ⟨rfl, rfl, rfl⟩ := sm_inj h
    exact gx_ri (post := gq_p x5 σ τ) (v := x5) S hr hlk hw (cb_nar hq_2) dX11_firstGets_106 ⟨rfl, rfl, rfl⟩
  · rw [if_neg c_1] at h
    refine lv_iload hx hb dX11_firstGets_53 (lv_at hl 5 rfl) ?_
    refine lv_iload hx hb dX11_firstGets_55 (lv_at hl 4 rfl) ?_
    refine lv_icmp_eq (tgt := 104) hx hb dX11_firstGets_57 (by decide) (fun c_3 => ?_) (fun c_3 => ?_)
    · rw [if_pos c_3] at h
      refine lv_iload hx hb dX11_firstGets_104 (lv_at hl 5 rfl) ?_
      obtain ⟨hq_4, h⟩ := cb_some h
      obtain ⟨rfl, rfl, rfl⟩ := sm_inj h
      exact gx_ri (post := gq_p x5 σ τ) (v := x5) S hr hlk hw (cb_nar hq_4) dX11_firstGets_106 ⟨rfl, rfl, rfl⟩
    · rw [if_neg c_3] at h
      refine lv_aload_n hx hb dX11_firstGets_60 rfl (lv_at hl 0 rfl) ?_
      refine gx_getr (j := 3) S hK hw t_0 cl_12 1 (by decide) rfl mw_448 rfl dX11_firstGets_61 ?_
      refine lv_iload hx hb dX11_firstGets_64 (lv_at hl 6 rfl) ?_
      obtain ⟨r_5, σ_5, τ_5, q_5, h⟩ := bd_some h
      refine gx_cVi (As := [.int x6]) (rest := []) S hK gx_ok hw (c_X8_isFork l (E := E) N σ τ x6 q_5) cw_X11_201 t_3 cl_9 (gw_ok (by omega) (by omega)) rfl hl.1 rfl (Nat.le_of_ble_eq_true rfl) ⟨Nat.le_of_ble_eq_true rfl, Nat.le_of_ble_eq_true rfl⟩ dX11_firstGets_66 (fun r9 σ9 τ9 H locs hp hw => ?_)
      obtain ⟨rfl, rfl, rfl⟩ := hp
      refine lv_if_eq (tgt := 98) hx hb dX11_firstGets_69 (by decide) (fun c_6 => ?_) (fun c_6 => ?_)
      · rw [if_pos c_6] at h
        refine lv_iinc (v := x6 + 1) (lv' := [(6, .int (x6 + 1)), (0, .ref (E.2.2 + 0)), (1, .int x1), (2, .int x2), (3, .int x3), (4, .int x4), (5, .int x5)]) hx hb dX11_firstGets_98 hl (k := 6) rfl rfl (by decide) rfl (fun ls hl => ?_)
        obtain ⟨v_7, e_7, h⟩ := nm_some h
        have hl : lv_has ls 7 [(6, .int v_7), (0, .ref (E.2.2 + 0)), (1, .int x1), (2, .int x2), (3, .int x3), (4, .int x4), (5, .int x5)] := by rw [e_7]; exact hl
        refine lv_goto (tgt := 41) hx hb dX11_firstGets_101 (by decide) ?_
        exact hrec_41 σ_5 τ_5 x1 x2 x3 x4 x5 v_7 _ _ _ _ _ _ h hw (lv_sub hl [1, 2, 3, 4, 5, 6, 0] rfl)
      · rw [if_neg c_6] at h
        refine lv_aload_n hx hb dX11_firstGets_72 rfl (lv_at hl 0 rfl) ?_
        refine lv_iload_n hx hb dX11_firstGets_73 rfl (lv_at hl 1 rfl) ?_
        refine lv_iconst (v := 1) hx hb dX11_firstGets_74 (by decide) ?_
        refine lv_iload hx hb dX11_firstGets_75 (lv_at hl 6 rfl) ?_
        refine lv_ishl hx hb dX11_firstGets_77 ?_
        refine lv_ixor hx hb dX11_firstGets_78 ?_
        refine lv_iload_n hx hb dX11_firstGets_79 rfl (lv_at hl 2 rfl) ?_
        refine lv_iload_n hx hb dX11_firstGets_80 rfl (lv_at hl 3 rfl) ?_
        refine lv_iconst (v := 1) hx hb dX11_firstGets_81 (by decide) ?_
        refine lv_isub hx hb dX11_firstGets_82 ?_
        refine lv_iload hx hb dX11_firstGets_83 (lv_at hl 4 rfl) ?_
        refine lv_if_ne (tgt := 92) hx hb dX11_firstGets_85 (by decide) (fun c_8 => ?_) (fun c_8 => ?_)
        · rw [if_neg c_8] at h
          refine lv_iconst (v := 0) hx hb dX11_firstGets_92 (by decide) ?_
          obtain ⟨r_9, σ_9, τ_9, q_9, h⟩ := bd_some h
          refine gx_cVi (As := [.int (x1 ^^^ (1 <<< (x6 &&& 31))), .int x2, .int (x3 - 1), .int 0]) (rest := []) S hK gx_ok hw (hme_firstGets σ_5 τ_5 (x1 ^^^ (1 <<< (x6 &&& 31))) x2 (x3 - 1) 0 _ _ _ q_9) cw_X11_362 t_0 cl_12 (gw_ok (by omega) (by omega)) rfl hl.1 rfl (Nat.le_of_ble_eq_true rfl) ⟨Nat.le_of_ble_eq_true rfl, Nat.le_of_ble_eq_true rfl⟩ dX11_firstGets_93 (fun r9 σ9 τ9 H locs hp hw => ?_)
          obtain ⟨rfl, rfl, rfl⟩ := hp
          refine lv_istore (lv' := [(5, .int r_9), (0, .ref (E.2.2 + 0)), (1, .int x1), (2, .int x2), (3, .int x3), (4, .int x4), (6, .int x6)]) hx hb dX11_firstGets_96 hl (by decide) rfl (fun ls hl => ?_)
          refine lv_iinc (v := x6 + 1) (lv' := [(6, .int (x6 + 1)), (5, .int r_9), (0, .ref (E.2.2 + 0)), (1, .int x1), (2, .int x2), (3, .int x3), (4, .int x4)]) hx hb dX11_firstGets_98 hl (k := 6) rfl rfl (by decide) rfl (fun ls hl => ?_)
          obtain ⟨v_10, e_10, h⟩ := nm_some h
          have hl : lv_has ls 7 [(6, .int v_10), (5, .int r_9), (0, .ref (E.2.2 + 0)), (1, .int x1), (2, .int x2), (3, .int x3), (4, .int x4)] := by rw [e_10]; exact hl
          refine lv_goto (tgt := 41) hx hb dX11_firstGets_101 (by decide) ?_
          exact hrec_41 σ_9 τ_9 x1 x2 x3 x4 r_9 v_10 _ _ _ _ _ _ h hw (lv_sub hl [2, 3, 4, 5, 6, 1, 0] rfl)
        · rw [if_pos c_8] at h
          refine lv_iconst (v := 1) hx hb dX11_firstGets_88 (by decide) ?_
          refine lv_goto (tgt := 93) hx hb dX11_firstGets_89 (by decide) ?_
          obtain ⟨r_11, σ_11, τ_11, q_11, h⟩ := bd_some h
          refine gx_cVi (As := [.int (x1 ^^^ (1 <<< (x6 &&& 31))), .int x2, .int (x3 - 1), .int 1]) (rest := []) S hK gx_ok hw (hme_firstGets σ_5 τ_5 (x1 ^^^ (1 <<< (x6 &&& 31))) x2 (x3 - 1) 1 _ _ _ q_11) cw_X11_362 t_0 cl_12 (gw_ok (by omega) (by omega)) rfl hl.1 rfl (Nat.le_of_ble_eq_true rfl) ⟨Nat.le_of_ble_eq_true rfl, Nat.le_of_ble_eq_true rfl⟩ dX11_firstGets_93 (fun r9 σ9 τ9 H locs hp hw => ?_)
          obtain ⟨rfl, rfl, rfl⟩ := hp
          refine lv_istore (lv' := [(5, .int r_11), (0, .ref (E.2.2 + 0)), (1, .int x1), (2, .int x2), (3, .int x3), (4, .int x4), (6, .int x6)]) hx hb dX11_firstGets_96 hl (by decide) rfl (fun ls hl => ?_)
          refine lv_iinc (v := x6 + 1) (lv' := [(6, .int (x6 + 1)), (5, .int r_11), (0, .ref (E.2.2 + 0)), (1, .int x1), (2, .int x2), (3, .int x3), (4, .int x4)]) hx hb dX11_firstGets_98 hl (k := 6) rfl rfl (by decide) rfl (fun ls hl => ?_)
          obtain ⟨v_12, e_12, h⟩ := nm_some h
          have hl : lv_has ls 7 [(6, .int v_12), (5, .int r_11), (0, .ref (E.2.2 + 0)), (1, .int x1), (2, .int x2), (3, .int x3), (4, .int x4)] := by rw [e_12]; exact hl
          refine lv_goto (tgt := 41) hx hb dX11_firstGets_101 (by decide) ?_
          exact hrec_41 σ_11 τ_11 x1 x2 x3 x4 r_11 v_12 _ _ _ _ _ _ h hw (lv_sub hl [2, 3, 4, 5, 6, 1, 0] rfl)
set_option maxHeartbeats 4000000 in
set_option maxRecDepth 100000 in
theorem h_X11_firstGets_41 (l : Launch) (dd : Nat) (me_firstGets : gI → gJ → Int32 → Int32 → Int32 → Int32 → Option (Int32 × gI × gJ)) (hme_firstGets : ∀ (σ : gI) (τ : gJ) (x1 : Int32) (x2 : Int32) (x3 : Int32) (x4 : Int32) (r : Int32) (σ1 : gI) (τ1 : gJ), me_firstGets σ τ x1 x2 x3 x4 = some (r, σ1, τ1) → gx_Mi l yX11_firstGets cX11_firstGets 7 (some .boolean) (dd) gx_tb E σ τ [.ref (E.2.2 + 0), .int x1, .int x2, .int x3, .int x4] (gq_p r σ1 τ1)) (S : CallFix P9 m9 C9 cX11_firstGets 7 s av.toArray gx_G RX11) (hr : meth.sig.returnType = (some .boolean)) (hlk : meth.locks = false) (hK : gx_K E s) (N : Nat) : ∀ (n : Nat) (σ : gI) (τ : gJ) (x1 : Int32) (x2 : Int32) (x3 : Int32) (x4 : Int32) (x5 : Int32) (x6 : Int32) (r : Int32) (σ1 : gI) (τ1 : gJ), H_X11_firstGets_41 me_firstGets N n σ τ x1 x2 x3 x4 x5 x6 = some (r, σ1, τ1) → ∀ (H : Heap) (locs : List Loc) (ls : Array Slot), gx_W gx_tb gx_tb.length E s σ τ H locs → lv_has ls 7 [(0, .ref (E.2.2 + 0)), (1, .int x1), (2, .int x2), (3, .int x3), (4, .int x4), (5, .int x5), (6, .int x6)] → W P9 l e9 (gx_rm (dd + 6)) s m9 av.toArray below meth C9 H locs 0 0 (gq_Qi below av s E r σ1 τ1) (F0 m9 41 ls []) := by
  intro n
  induction n with
  | zero => intro σ τ x1 x2 x3 x4 x5 x6 r σ1 τ1 h; cases h
  | succ n ih =>
    intro σ τ x1 x2 x3 x4 x5 x6 r σ1 τ1 h H locs ls hw hl
    exact k_X11_firstGets_41 l dd me_firstGets hme_firstGets S hr hlk hK N (H_X11_firstGets_41 me_firstGets N n) (fun σ τ x1 x2 x3 x4 x5 x6 r σ1 τ1 H locs ls h hw hl => ih σ τ x1 x2 x3 x4 x5 x6 r σ1 τ1 h H locs ls hw hl) σ τ x1 x2 x3 x4 x5 x6 h hw hl
set_option maxHeartbeats 4000000 in
set_option maxRecDepth 100000 in
theorem b_X11_firstGets_0 (l : Launch) (dd : Nat) (me_firstGets : gI → gJ → Int32 → Int32 → Int32 → Int32 → Option (Int32 × gI × gJ)) (hme_firstGets : ∀ (σ : gI) (τ : gJ) (x1 : Int32) (x2 : Int32) (x3 : Int32) (x4 : Int32) (r : Int32) (σ1 : gI) (τ1 : gJ), me_firstGets σ τ x1 x2 x3 x4 = some (r, σ1, τ1) → gx_Mi l yX11_firstGets cX11_firstGets 7 (some .boolean) (dd) gx_tb E σ τ [.ref (E.2.2 + 0), .int x1, .int x2, .int x3, .int x4] (gq_p r σ1 τ1)) (S : CallFix P9 m9 C9 cX11_firstGets 7 s av.toArray gx_G RX11) (hr : meth.sig.returnType = (some .boolean)) (hlk : meth.locks = false) (hK : gx_K E s) (N : Nat) (σ : gI) (τ : gJ) (x1 : Int32) (x2 : Int32) (x3 : Int32) (x4 : Int32) {r : Int32} {σ1 : gI} {τ1 : gJ} (h : B_X11_firstGets_0 me_firstGets N σ τ x1 x2 x3 x4 = some (r, σ1, τ1)) {H : Heap} {locs : List Loc} {ls : Array Slot} (hw : gx_W gx_tb gx_tb.length E s σ τ H locs) (hl : lv_has ls 7 [(0, .ref (E.2.2 + 0)), (1, .int x1), (2, .int x2), (3, .int x3), (4, .int x4)]) : W P9 l e9 (gx_rm (dd + 6)) s m9 av.toArray below meth C9 H locs 0 0 (gq_Qi below av s E r σ1 τ1) (F0 m9 0 ls []) := by
  have hx := S.1
  have hb := S.2.1
  unfold B_X11_firstGets_0 at h
  refine lv_iload_n hx hb dX11_firstGets_0 rfl (lv_at hl 3 rfl) ?_
  refine lv_if_gt (tgt := 17) hx hb dX11_firstGets_1 (by decide) (fun c_1 => ?_) (fun c_1 => ?_)
  · rw [if_pos c_1] at h
    refine lv_aload_n hx hb dX11_firstGets_17 rfl (lv_at hl 0 rfl) ?_
    refine lv_iload_n hx hb dX11_firstGets_18 rfl (lv_at hl 1 rfl) ?_
    refine lv_iload_n hx hb dX11_firstGets_19 rfl (lv_at hl 2 rfl) ?_
    refine lv_iload_n hx hb dX11_firstGets_20 rfl (lv_at hl 3 rfl) ?_
    refine lv_iconst (v := 1) hx hb dX11_firstGets_21 (by decide) ?_
    refine lv_isub hx hb dX11_firstGets_22 ?_
    refine lv_iload hx hb dX11_firstGets_23 (lv_at hl 4 rfl) ?_
    refine lv_if_ne (tgt := 32) hx hb dX11_firstGets_25 (by decide) (fun c_2 => ?_) (fun c_2 => ?_)
    · rw [if_neg c_2] at h
      refine lv_iconst (v := 0) hx hb dX11_firstGets_32 (by decide) ?_
      obtain ⟨r_3, σ_3, τ_3, q_3, h⟩ := bd_some h
      refine gx_cVi (As := [.int x1, .int x2, .int (x3 - 1), .int 0]) (rest := []) S hK gx_ok hw (hme_firstGets σ τ x1 x2 (x3 - 1) 0 _ _ _ q_3) cw_X11_362 t_0 cl_12 (gw_ok (by omega) (by omega)) rfl hl.1 rfl (Nat.le_of_ble_eq_true rfl) ⟨Nat.le_of_ble_eq_true rfl, Nat.le_of_ble_eq_true rfl⟩ dX11_firstGets_33 (fun r9 σ9 τ9 H locs hp hw => ?_)
      obtain ⟨rfl, rfl, rfl⟩ := hp
      refine lv_istore (lv' := [(5, .int r_3), (0, .ref (E.2.2 + 0)), (1, .int x1), (2, .int x2), (3, .int x3), (4, .int x4)]) hx hb dX11_firstGets_36 hl (by decide) rfl (fun ls hl => ?_)
      refine lv_iconst (v := 0) hx hb dX11_firstGets_38 (by decide) ?_
      refine lv_istore (lv' := [(6, .int 0), (5, .int r_3), (0, .ref (E.2.2 + 0)), (1, .int x1), (2, .int x2), (3, .int x3), (4, .int x4)]) hx hb dX11_firstGets_39 hl (by decide) rfl (fun ls hl => ?_)
      exact h_X11_firstGets_41 l dd me_firstGets hme_firstGets S hr hlk hK N N σ_3 τ_3 x1 x2 x3 x4 r_3 0 _ _ _ h _ _ _ hw (lv_sub hl [2, 3, 4, 5, 6, 1, 0] rfl)
    · rw [if_pos c_2] at h
      refine lv_iconst (v := 1) hx hb dX11_firstGets_28 (by decide) ?_
      refine lv_goto (tgt := 33) hx hb dX11_firstGets_29 (by decide) ?_
      obtain ⟨r_4, σ_4, τ_4, q_4, h⟩ := bd_some h
      refine gx_cVi (As := [.int x1, .int x2, .int (x3 - 1), .int 1]) (rest := []) S hK gx_ok hw (hme_firstGets σ τ x1 x2 (x3 - 1) 1 _ _ _ q_4) cw_X11_362 t_0 cl_12 (gw_ok (by omega) (by omega)) rfl hl.1 rfl (Nat.le_of_ble_eq_true rfl) ⟨Nat.le_of_ble_eq_true rfl, Nat.le_of_ble_eq_true rfl⟩ dX11_firstGets_33 (fun r9 σ9 τ9 H locs hp hw => ?_)
      obtain ⟨rfl, rfl, rfl⟩ := hp
      refine lv_istore (lv' := [(5, .int r_4), (0, .ref (E.2.2 + 0)), (1, .int x1), (2, .int x2), (3, .int x3), (4, .int x4)]) hx hb dX11_firstGets_36 hl (by decide) rfl (fun ls hl => ?_)
      refine lv_iconst (v := 0) hx hb dX11_firstGets_38 (by decide) ?_
      refine lv_istore (lv' := [(6, .int 0), (5, .int r_4), (0, .ref (E.2.2 + 0)), (1, .int x1), (2, .int x2), (3, .int x3), (4, .int x4)]) hx hb dX11_firstGets_39 hl (by decide) rfl (fun ls hl => ?_)
      exact h_X11_firstGets_41 l dd me_firstGets hme_firstGets S hr hlk hK N N σ_4 τ_4 x1 x2 x3 x4 r_4 0 _ _ _ h _ _ _ hw (lv_sub hl [2, 3, 4, 5, 6, 1, 0] rfl)
  · rw [if_neg c_1] at h
    refine lv_aload_n hx hb dX11_firstGets_4 rfl (lv_at hl 0 rfl) ?_
    refine gx_getr (j := 160) S hK hw t_0 cl_12 15 (by decide) rfl mw_462 rfl dX11_firstGets_5 ?_
    refine lv_iload_n hx hb dX11_firstGets_8 rfl (lv_at hl 1 rfl) ?_
    obtain ⟨r_5, σ_5, τ_5, q_5, h⟩ := bd_some h
    refine gx_cVi (As := [.int x1]) (rest := []) S hK gx_ok hw (c_X9_outcome l (E := E) N σ τ x1 q_5) cw_X11_356 t_160 cl_10 (gw_ok (by omega) (by omega)) rfl hl.1 rfl (Nat.le_of_ble_eq_true rfl) ⟨Nat.le_of_ble_eq_true rfl, Nat.le_of_ble_eq_true rfl⟩ dX11_firstGets_9 (fun r9 σ9 τ9 H locs hp hw => ?_)
    obtain ⟨rfl, rfl, rfl⟩ := hp
    refine lv_iload_n hx hb dX11_firstGets_12 rfl (lv_at hl 2 rfl) ?_
    obtain ⟨r_6, σ_6, τ_6, q_6, h⟩ := bd_some h
    refine gx_cSi (As := [.int r_5, .int x2]) (rest := []) S hK gx_ok hw (c_X11_isIn l (E := E) N σ_5 τ_5 r_5 x2 q_6) cw_X11_317 (gw_ok (by omega) (by omega)) rfl hl.1 rfl (Nat.le_of_ble_eq_true rfl) ⟨Nat.le_of_ble_eq_true rfl, Nat.le_of_ble_eq_true rfl⟩ dX11_firstGets_13 (fun r9 σ9 τ9 H locs hp hw => ?_)
    obtain ⟨rfl, rfl, rfl⟩ := hp
    obtain ⟨hq_7, h⟩ := cb_some h
    obtain ⟨rfl, rfl, rfl⟩ := sm_inj h
    exact gx_ri (post := gq_p r_6 σ_6 τ_6) (v := r_6) S hr hlk hw (cb_nar hq_7) dX11_firstGets_16 ⟨rfl, rfl, rfl⟩
set_option maxHeartbeats 4000000 in
set_option maxRecDepth 100000 in
theorem c_X11_firstGets (l : Launch) {E : gE} (N : Nat) : ∀ D : Nat, (∀ (σ : gI) (τ : gJ) (x1 : Int32) (x2 : Int32) (x3 : Int32) (x4 : Int32) (r : Int32) (σ1 : gI) (τ1 : gJ), (R_X11_firstGets N D) σ τ x1 x2 x3 x4 = some (r, σ1, τ1) → gx_Mi l yX11_firstGets cX11_firstGets 7 (some .boolean) (6 * D) gx_tb E σ τ [.ref (E.2.2 + 0), .int x1, .int x2, .int x3, .int x4] (gq_p r σ1 τ1)) := by
  intro D
  induction D with
  | zero => exact fun σ τ x1 x2 x3 x4 r σ1 τ1 h => (by cases h)
  | succ D ih =>
    intro σ τ x1 x2 x3 x4 r σ1 τ1 h
    refine gx_bi (by decide +kernel) (Nat.le_of_ble_eq_true rfl) ?_
    intro P9 e9 s m9 below meth C9 S hr hlk hK hw ls hl
    have hl : lv_has ls 7 [(0, .ref (E.2.2 + 0)), (1, .int x1), (2, .int x2), (3, .int x3), (4, .int x4)] := hl
    exact b_X11_firstGets_0 l (6 * D) ((R_X11_firstGets N D)) (fun σ τ x1 x2 x3 x4 r σ1 τ1 h => ih σ τ x1 x2 x3 x4 r σ1 τ1 h) S hr hlk hK N σ τ x1 x2 x3 x4 h hw hl
/-! X11_duel -/
def B_X11_duel_172 (N : Nat) (σ : gI) (τ : gJ) (x6 : Int32) (x7 : Int32) : Option (Int32 × gI × gJ) := bd (B_X4_tell_0 N σ τ x6.toInt64) fun _ σ_1 τ_1 => if x7 = 0 then (some (0, σ_1, τ_1)) else (some (1, σ_1, τ_1))
def C_X11_duel_99 (N : Nat) (rec_99 : gI → gJ → Int32 → Int32 → Int32 → Int32 → Int32 → Option (Int32 × gI × gJ)) (σ : gI) (τ : gJ) (x4 : Int32) (x5 : Int32) (x6 : Int32) (x7 : Int32) (x8 : Int32) : Option (Int32 × gI × gJ) := if σ 3 6 ≤ x8 then (B_X11_duel_172 N σ τ x6 x7) else (if x5 ≤ 0 then (B_X11_duel_172 N σ τ x6 x7) else (if x7 = 0 then (bd (B_X8_isFork_0 N σ τ x8) fun r_4 σ_4 τ_4 => if r_4 = 0 then (nm (x8 + 1) fun v_6 => rec_99 σ_4 τ_4 x4 x5 x6 x7 v_6) else (bd ((R_X11_firstGets N 5) σ_4 τ_4 ((σ_4 30 7) ^^^ (1 <<< (x8 &&& 31))) x4 (x5 - 1) 0) fun r_7 σ_7 τ_7 => if r_7 = 0 then (nm (x8 + 1) fun v_9 => rec_99 σ_7 τ_7 x4 x5 x6 x7 v_9) else (nm (x8 + 1) fun v_10 => rec_99 σ_7 τ_7 x4 x5 x8 1 v_10))) else (B_X11_duel_172 N σ τ x6 x7)))
def H_X11_duel_99 (N : Nat) : Nat → gI → gJ → Int32 → Int32 → Int32 → Int32 → Int32 → Option (Int32 × gI × gJ) := itn (fun rec_99 => C_X11_duel_99 N rec_99) (fun _ _ _ _ _ _ _ => none)
def B_X11_duel_0 (N : Nat) (σ : gI) (τ : gJ) (x1 : Int32) (x2 : Int32) (x3 : Int32) (x4 : Int32) (x5 : Int32) : Option (Int32 × gI × gJ) := bd (B_X8_has_0 N σ τ x1) fun r_1 σ_1 τ_1 => if r_1 = 0 then (some ((-1), σ_1, τ_1)) else (bd (B_X11_isLoad_0 N σ_1 τ_1 x2 x3) fun r_3 σ_3 τ_3 => if r_3 = 0 then (some ((-1), σ_3, τ_3)) else (bd (B_X8_isKitchen_0 N σ_3 τ_3 x4) fun r_5 σ_5 τ_5 => if r_5 = 0 then (some ((-1), σ_5, τ_5)) else (if x5 < 0 then (some ((-1), σ_5, τ_5)) else (if x5 ≤ 3 then (bd (B_X9_thinkOf_0 N σ_5 τ_5 x1 x2 x3 0 (σ_5 30 8)) fun _ σ_9 τ_9 => bd (B_X9_forgetSets_0 N σ_9 τ_9) fun _ σ_10 τ_10 => bd ((R_X11_firstGets N 5) σ_10 τ_10 (σ_10 30 7) x4 (imax 0 (x5 - 1)) 0) fun r_11 σ_11 τ_11 => H_X11_duel_99 N N σ_11 τ_11 x4 x5 (-1) r_11 0) else (some ((-1), σ_5, τ_5))))))
set_option maxHeartbeats 4000000 in
set_option maxRecDepth 100000 in
theorem b_X11_duel_172 (l : Launch) (S : CallFix P9 m9 C9 cX11_duel 9 s av.toArray gx_G RX11) (hr : meth.sig.returnType = (some .int)) (hlk : meth.locks = false) (hK : gx_K E s) (N : Nat) (σ : gI) (τ : gJ) (x6 : Int32) (x7 : Int32) {r : Int32} {σ1 : gI} {τ1 : gJ} (h : B_X11_duel_172 N σ τ x6 x7 = some (r, σ1, τ1)) {H : Heap} {locs : List Loc} {ls : Array Slot} (hw : gx_W gx_tb gx_tb.length E s σ τ H locs) (hl : lv_has ls 9 [(0, .ref (E.2.2 + 0)), (6, .int x6), (7, .int x7)]) : W P9 l e9 (gx_rm 31) s m9 av.toArray below meth C9 H locs 0 0 (gq_Qi below av s E r σ1 τ1) (F0 m9 172 ls []) := by
  have hx := S.1
  have hb := S.2.1
  unfold B_X11_duel_172 at h
  refine lv_aload_n hx hb dX11_duel_172 rfl (lv_at hl 0 rfl) ?_
  refine gx_getr (j := 156) S hK hw t_0 cl_12 13 (by decide) rfl mw_460 rfl dX11_duel_173 ?_
  refine lv_iload hx hb dX11_duel_176 (lv_at hl 1 rfl) ?_
  refine lv_i2l (v := x6.toInt64) hx hb dX11_duel_178 rfl ?_
  obtain ⟨u_1, σ_1, τ_1, q_1, h⟩ := bd_some h
  refine gx_cVv (As := [.long x6.toInt64]) (rest := []) S hK gx_ok hw (c_X4_tell l (E := E) N σ τ x6.toInt64 q_1) cw_X11_307 t_156 cl_5 ⟨Nat.le_of_ble_eq_true rfl, Nat.le_of_ble_eq_true rfl⟩ rfl hl.1 rfl (Nat.le_of_ble_eq_true rfl) ⟨Nat.le_of_ble_eq_true rfl, Nat.le_of_ble_eq_true rfl⟩ dX11_duel_179 (fun σ9 τ9 H locs hp hw => ?_)
  obtain ⟨rfl, rfl⟩ := hp
  refine lv_iload hx hb dX11_duel_182 (lv_at hl 2 rfl) ?_
  refine lv_if_eq (tgt := 191) hx hb dX11_duel_184 (by decide) (fun c_2 => ?_) (fun c_2 => ?_)
  · rw [if_pos c_2] at h
    refine lv_iconst (v := 0) hx hb dX11_duel_191 (by decide) ?_
    obtain ⟨rfl, rfl, rfl⟩ := sm_inj h
    exact gx_ri (post := gq_p 0 σ_1 τ_1) (v := 0) S hr hlk hw rfl dX11_duel_192 ⟨rfl, rfl, rfl⟩
  · rw [if_neg c_2] at h
    refine lv_iconst (v := 1) hx hb dX11_duel_187 (by decide) ?_
    refine lv_goto (tgt := 192) hx hb dX11_duel_188 (by decide) ?_
    obtain ⟨rfl, rfl, rfl⟩ := sm_inj h
    exact gx_ri (post := gq_p 1 σ_1 τ_1) (v := 1) S hr hlk hw rfl dX11_duel_192 ⟨rfl, rfl, rfl⟩
set_option maxHeartbeats 4000000 in
set_option maxRecDepth 100000 in
theorem k_X11_duel_99 (l : Launch) (S : CallFix P9 m9 C9 cX11_duel 9 s av.toArray gx_G RX11) (hr : meth.sig.returnType = (some .int)) (hlk : meth.locks = false) (hK : gx_K E s) (N : Nat) (rec_99 : gI → gJ → Int32 → Int32 → Int32 → Int32 → Int32 → Option (Int32 × gI × gJ)) (hrec_99 : ∀ (σ : gI) (τ : gJ) (x4 : Int32) (x5 : Int32) (x6 : Int32) (x7 : Int32) (x8 : Int32) (r : Int32) (σ1 : gI) (τ1 : gJ) (H : Heap) (locs : List Loc) (ls : Array Slot), rec_99 σ τ x4 x5 x6 x7 x8 = some (r, σ1, τ1) → gx_W gx_tb gx_tb.length E s σ τ H locs → lv_has ls 9 [(0, .ref (E.2.2 + 0)), (4, .int x4), (5, .int x5), (6, .int x6), (7, .int x7), (8, .int x8)] → W P9 l e9 (gx_rm 31) s m9 av.toArray below meth C9 H locs 0 0 (gq_Qi below av s E r σ1 τ1) (F0 m9 99 ls [])) (σ : gI) (τ : gJ) (x4 : Int32) (x5 : Int32) (x6 : Int32) (x7 : Int32) (x8 : Int32) {r : Int32} {σ1 : gI} {τ1 : gJ} (h : C_X11_duel_99 N rec_99 σ τ x4 x5 x6 x7 x8 = some (r, σ1, τ1)) {H : Heap} {locs : List Loc} {ls : Array Slot} (hw : gx_W gx_tb gx_tb.length E s σ τ H locs) (hl : lv_has ls 9 [(0, .ref (E.2.2 + 0)), (4, .int x4), (5, .int x5), (6, .int x6), (7, .int x7), (8, .int x8)]) : W P9 l e9 (gx_rm 31) s m9 av.toArray below meth C9 H locs 0 0 (gq_Qi below av s E r σ1 τ1) (F0 m9 99 ls []) := by
  have hx := S.1
  have hb := S.2.1
  unfold C_X11_duel_99 at h
  refine lv_iload hx hb dX11_duel_99 (lv_at hl 5 rfl) ?_
  refine lv_aload_n hx hb dX11_duel_101 rfl (lv_at hl 0 rfl) ?_
  refine gx_getr (j := 3) S hK hw t_0 cl_12 1 (by decide) rfl mw_448 rfl dX11_duel_102 ?_
  refine gx_get S hK hw t_3 cl_9 6 (by decide) rfl mw_155 rfl dX11_duel_105 ?_
  refine lv_icmp_ge (tgt := 172) hx hb dX11_duel_108 (by decide) (fun c_1 => ?_) (fun c_1 => ?_)
  · rw [if_pos c_1] at h
    exact b_X11_duel_172 l S hr hlk hK N σ τ x6 x7 h hw (lv_sub hl [0, 3, 4] rfl)
  · rw [if_neg c_1] at h
    refine lv_iload hx hb dX11_duel_111 (lv_at hl 2 rfl) ?_
    refine lv_if_le (tgt := 172) hx hb dX11_duel_113 (by decide) (fun c_2 => ?_) (fun c_2 => ?_)
    · rw [if_pos c_2] at h
      exact b_X11_duel_172 l S hr hlk hK N σ τ x6 x7 h hw (lv_sub hl [0, 3, 4] rfl)
    · rw [if_neg c_2] at h
      refine lv_iload hx hb dX11_duel_116 (lv_at hl 4 rfl) ?_
      refine lv_if_ne (tgt := 172) hx hb dX11_duel_118 (by decide) (fun c_3 => ?_) (fun c_3 => ?_)
      · rw [if_neg c_3] at h
        exact b_X11_duel_172 l S hr hlk hK N σ τ x6 x7 h hw (lv_sub hl [0, 3, 4] rfl)
      · rw [if_pos c_3] at h
        refine lv_aload_n hx hb dX11_duel_121 rfl (lv_at hl 0 rfl) ?_
        refine gx_getr (j := 3) S hK hw t_0 cl_12 1 (by decide) rfl mw_448 rfl dX11_duel_122 ?_
        refine lv_iload hx hb dX11_duel_125 (lv_at hl 5 rfl) ?_
        obtain ⟨r_4, σ_4, τ_4, q_4, h⟩ := bd_some h
        refine gx_cVi (As := [.int x8]) (rest := []) S hK gx_ok hw (c_X8_isFork l (E := E) N σ τ x8 q_4) cw_X11_201 t_3 cl_9 ⟨Nat.le_of_ble_eq_true rfl, Nat.le_of_ble_eq_true rfl⟩ rfl hl.1 rfl (Nat.le_of_ble_eq_true rfl) ⟨Nat.le_of_ble_eq_true rfl, Nat.le_of_ble_eq_true rfl⟩ dX11_duel_127 (fun r9 σ9 τ9 H locs hp hw => ?_)
        obtain ⟨rfl, rfl, rfl⟩ := hp
        refine lv_if_eq (tgt := 166) hx hb dX11_duel_130 (by decide) (fun c_5 => ?_) (fun c_5 => ?_)
        · rw [if_pos c_5] at h
          refine lv_iinc (v := x8 + 1) (lv' := [(8, .int (x8 + 1)), (0, .ref (E.2.2 + 0)), (4, .int x4), (5, .int x5), (6, .int x6), (7, .int x7)]) hx hb dX11_duel_166 hl (k := 5) rfl rfl (by decide) rfl (fun ls hl => ?_)
          obtain ⟨v_6, e_6, h⟩ := nm_some h
          have hl : lv_has ls 9 [(8, .int v_6), (0, .ref (E.2.2 + 0)), (4, .int x4), (5, .int x5), (6, .int x6), (7, .int x7)] := by rw [e_6]; exact hl
          refine lv_goto (tgt := 99) hx hb dX11_duel_169 (by decide) ?_
          exact hrec_99 σ_4 τ_4 x4 x5 x6 x7 v_6 _ _ _ _ _ _ h hw (lv_sub hl [1, 2, 3, 4, 5, 0] rfl)
        · rw [if_neg c_5] at h
          refine lv_aload_n hx hb dX11_duel_133 rfl (lv_at hl 0 rfl) ?_
          refine lv_aload_n hx hb dX11_duel_134 rfl (lv_at hl 0 rfl) ?_
          refine gx_getr (j := 30) S hK hw t_0 cl_12 7 (by decide) rfl mw_454 rfl dX11_duel_135 ?_
          refine gx_get S hK hw t_30 cl_7 7 (by decide) rfl mw_276 rfl dX11_duel_138 ?_
          refine lv_iconst (v := 1) hx hb dX11_duel_141 (by decide) ?_
          refine lv_iload hx hb dX11_duel_142 (lv_at hl 5 rfl) ?_
          refine lv_ishl hx hb dX11_duel_144 ?_
          refine lv_ixor hx hb dX11_duel_145 ?_
          refine lv_iload hx hb dX11_duel_146 (lv_at hl 1 rfl) ?_
          refine lv_iload hx hb dX11_duel_148 (lv_at hl 2 rfl) ?_
          refine lv_iconst (v := 1) hx hb dX11_duel_150 (by decide) ?_
          refine lv_isub hx hb dX11_duel_151 ?_
          refine lv_iconst (v := 0) hx hb dX11_duel_152 (by decide) ?_
          obtain ⟨r_7, σ_7, τ_7, q_7, h⟩ := bd_some h
          refine gx_cVi (As := [.int ((σ_4 30 7) ^^^ (1 <<< (x8 &&& 31))), .int x4, .int (x5 - 1), .int 0]) (rest := []) S hK gx_ok hw ((c_X11_firstGets l (E := E) N 5) σ_4 τ_4 ((σ_4 30 7) ^^^ (1 <<< (x8 &&& 31))) x4 (x5 - 1) 0 _ _ _ q_7) cw_X11_362 t_0 cl_12 ⟨Nat.le_of_ble_eq_true rfl, Nat.le_of_ble_eq_true rfl⟩ rfl hl.1 rfl (Nat.le_of_ble_eq_true rfl) ⟨Nat.le_of_ble_eq_true rfl, Nat.le_of_ble_eq_true rfl⟩ dX11_duel_153 (fun r9 σ9 τ9 H locs hp hw => ?_)
          obtain ⟨rfl, rfl, rfl⟩ := hp
          refine lv_if_eq (tgt := 166) hx hb dX11_duel_156 (by decide) (fun c_8 => ?_) (fun c_8 => ?_)
          · rw [if_pos c_8] at h
            refine lv_iinc (v := x8 + 1) (lv' := [(8, .int (x8 + 1)), (0, .ref (E.2.2 + 0)), (4, .int x4), (5, .int x5), (6, .int x6), (7, .int x7)]) hx hb dX11_duel_166 hl (k := 5) rfl rfl (by decide) rfl (fun ls hl => ?_)
            obtain ⟨v_9, e_9, h⟩ := nm_some h
            have hl : lv_has ls 9 [(8, .int v_9), (0, .ref (E.2.2 + 0)), (4, .int x4), (5, .int x5), (6, .int x6), (7, .int x7)] := by rw [e_9]; exact hl
            refine lv_goto (tgt := 99) hx hb dX11_duel_169 (by decide) ?_
            exact hrec_99 σ_7 τ_7 x4 x5 x6 x7 v_9 _ _ _ _ _ _ h hw (lv_sub hl [1, 2, 3, 4, 5, 0] rfl)
          · rw [if_neg c_8] at h
            refine lv_iconst (v := 1) hx hb dX11_duel_159 (by decide) ?_
            refine lv_istore (lv' := [(7, .int 1), (0, .ref (E.2.2 + 0)), (4, .int x4), (5, .int x5), (6, .int x6), (8, .int x8)]) hx hb dX11_duel_160 hl (by decide) rfl (fun ls hl => ?_)
            refine lv_iload hx hb dX11_duel_162 (lv_at hl 5 rfl) ?_
            refine lv_istore (lv' := [(6, .int x8), (7, .int 1), (0, .ref (E.2.2 + 0)), (4, .int x4), (5, .int x5), (8, .int x8)]) hx hb dX11_duel_164 hl (by decide) rfl (fun ls hl => ?_)
            refine lv_iinc (v := x8 + 1) (lv' := [(8, .int (x8 + 1)), (6, .int x8), (7, .int 1), (0, .ref (E.2.2 + 0)), (4, .int x4), (5, .int x5)]) hx hb dX11_duel_166 hl (k := 5) rfl rfl (by decide) rfl (fun ls hl => ?_)
            obtain ⟨v_10, e_10, h⟩ := nm_some h
            have hl : lv_has ls 9 [(8, .int v_10), (6, .int x8), (7, .int 1), (0, .ref (E.2.2 + 0)), (4, .int x4), (5, .int x5)] := by rw [e_10]; exact hl
            refine lv_goto (tgt := 99) hx hb dX11_duel_169 (by decide) ?_
            exact hrec_99 σ_7 τ_7 x4 x5 x8 1 v_10 _ _ _ _ _ _ h hw (lv_sub hl [3, 4, 5, 1, 2, 0] rfl)
set_option maxHeartbeats 4000000 in
set_option maxRecDepth 100000 in
theorem h_X11_duel_99 (l : Launch) (S : CallFix P9 m9 C9 cX11_duel 9 s av.toArray gx_G RX11) (hr : meth.sig.returnType = (some .int)) (hlk : meth.locks = false) (hK : gx_K E s) (N : Nat) : ∀ (n : Nat) (σ : gI) (τ : gJ) (x4 : Int32) (x5 : Int32) (x6 : Int32) (x7 : Int32) (x8 : Int32) (r : Int32) (σ1 : gI) (τ1 : gJ), H_X11_duel_99 N n σ τ x4 x5 x6 x7 x8 = some (r, σ1, τ1) → ∀ (H : Heap) (locs : List Loc) (ls : Array Slot), gx_W gx_tb gx_tb.length E s σ τ H locs → lv_has ls 9 [(0, .ref (E.2.2 + 0)), (4, .int x4), (5, .int x5), (6, .int x6), (7, .int x7), (8, .int x8)] → W P9 l e9 (gx_rm 31) s m9 av.toArray below meth C9 H locs 0 0 (gq_Qi below av s E r σ1 τ1) (F0 m9 99 ls []) := by
  intro n
  induction n with
  | zero => intro σ τ x4 x5 x6 x7 x8 r σ1 τ1 h; cases h
  | succ n ih =>
    intro σ τ x4 x5 x6 x7 x8 r σ1 τ1 h H locs ls hw hl
    exact k_X11_duel_99 l S hr hlk hK N (H_X11_duel_99 N n) (fun σ τ x4 x5 x6 x7 x8 r σ1 τ1 H locs ls h hw hl => ih σ τ x4 x5 x6 x7 x8 r σ1 τ1 h H locs ls hw hl) σ τ x4 x5 x6 x7 x8 h hw hl
set_option maxHeartbeats 4000000 in
set_option maxRecDepth 100000 in
theorem b_X11_duel_0 (l : Launch) (S : CallFix P9 m9 C9 cX11_duel 9 s av.toArray gx_G RX11) (hr : meth.sig.returnType = (some .int)) (hlk : meth.locks = false) (hK : gx_K E s) (N : Nat) (σ : gI) (τ : gJ) (x1 : Int32) (x2 : Int32) (x3 : Int32) (x4 : Int32) (x5 : Int32) {r : Int32} {σ1 : gI} {τ1 : gJ} (h : B_X11_duel_0 N σ τ x1 x2 x3 x4 x5 = some (r, σ1, τ1)) {H : Heap} {locs : List Loc} {ls : Array Slot} (hw : gx_W gx_tb gx_tb.length E s σ τ H locs) (hl : lv_has ls 9 [(0, .ref (E.2.2 + 0)), (1, .int x1), (2, .int x2), (3, .int x3), (4, .int x4), (5, .int x5)]) : W P9 l e9 (gx_rm 31) s m9 av.toArray below meth C9 H locs 0 0 (gq_Qi below av s E r σ1 τ1) (F0 m9 0 ls []) := by
  have hx := S.1
  have hb := S.2.1
  unfold B_X11_duel_0 at h
  refine lv_aload_n hx hb dX11_duel_0 rfl (lv_at hl 0 rfl) ?_
  refine gx_getr (j := 3) S hK hw t_0 cl_12 1 (by decide) rfl mw_448 rfl dX11_duel_1 ?_
  refine lv_iload_n hx hb dX11_duel_4 rfl (lv_at hl 1 rfl) ?_
  obtain ⟨r_1, σ_1, τ_1, q_1, h⟩ := bd_some h
  refine gx_cVi (As := [.int x1]) (rest := []) S hK gx_ok hw (c_X8_has l (E := E) N σ τ x1 q_1) cw_X11_137 t_3 cl_9 ⟨Nat.le_of_ble_eq_true rfl, Nat.le_of_ble_eq_true rfl⟩ rfl hl.1 rfl (Nat.le_of_ble_eq_true rfl) ⟨Nat.le_of_ble_eq_true rfl, Nat.le_of_ble_eq_true rfl⟩ dX11_duel_5 (fun r9 σ9 τ9 H locs hp hw => ?_)
  obtain ⟨rfl, rfl, rfl⟩ := hp
  refine lv_if_eq (tgt := 42) hx hb dX11_duel_8 (by decide) (fun c_2 => ?_) (fun c_2 => ?_)
  · rw [if_pos c_2] at h
    refine lv_iconst (v := (-1)) hx hb dX11_duel_42 (by decide) ?_
    obtain ⟨rfl, rfl, rfl⟩ := sm_inj h
    exact gx_ri (post := gq_p (-1) σ_1 τ_1) (v := (-1)) S hr hlk hw rfl dX11_duel_43 ⟨rfl, rfl, rfl⟩
  · rw [if_neg c_2] at h
    refine lv_iload_n hx hb dX11_duel_11 rfl (lv_at hl 2 rfl) ?_
    refine lv_iload_n hx hb dX11_duel_12 rfl (lv_at hl 3 rfl) ?_
    obtain ⟨r_3, σ_3, τ_3, q_3, h⟩ := bd_some h
    refine gx_cSi (As := [.int x2, .int x3]) (rest := []) S hK gx_ok hw (c_X11_isLoad l (E := E) N σ_1 τ_1 x2 x3 q_3) cw_X11_227 ⟨Nat.le_of_ble_eq_true rfl, Nat.le_of_ble_eq_true rfl⟩ rfl hl.1 rfl (Nat.le_of_ble_eq_true rfl) ⟨Nat.le_of_ble_eq_true rfl, Nat.le_of_ble_eq_true rfl⟩ dX11_duel_13 (fun r9 σ9 τ9 H locs hp hw => ?_)
    obtain ⟨rfl, rfl, rfl⟩ := hp
    refine lv_if_eq (tgt := 42) hx hb dX11_duel_16 (by decide) (fun c_4 => ?_) (fun c_4 => ?_)
    · rw [if_pos c_4] at h
      refine lv_iconst (v := (-1)) hx hb dX11_duel_42 (by decide) ?_
      obtain ⟨rfl, rfl, rfl⟩ := sm_inj h
      exact gx_ri (post := gq_p (-1) σ_3 τ_3) (v := (-1)) S hr hlk hw rfl dX11_duel_43 ⟨rfl, rfl, rfl⟩
    · rw [if_neg c_4] at h
      refine lv_aload_n hx hb dX11_duel_19 rfl (lv_at hl 0 rfl) ?_
      refine gx_getr (j := 3) S hK hw t_0 cl_12 1 (by decide) rfl mw_448 rfl dX11_duel_20 ?_
      refine lv_iload hx hb dX11_duel_23 (lv_at hl 4 rfl) ?_
      obtain ⟨r_5, σ_5, τ_5, q_5, h⟩ := bd_some h
      refine gx_cVi (As := [.int x4]) (rest := []) S hK gx_ok hw (c_X8_isKitchen l (E := E) N σ_3 τ_3 x4 q_5) cw_X11_234 t_3 cl_9 ⟨Nat.le_of_ble_eq_true rfl, Nat.le_of_ble_eq_true rfl⟩ rfl hl.1 rfl (Nat.le_of_ble_eq_true rfl) ⟨Nat.le_of_ble_eq_true rfl, Nat.le_of_ble_eq_true rfl⟩ dX11_duel_25 (fun r9 σ9 τ9 H locs hp hw => ?_)
      obtain ⟨rfl, rfl, rfl⟩ := hp
      refine lv_if_eq (tgt := 42) hx hb dX11_duel_28 (by decide) (fun c_6 => ?_) (fun c_6 => ?_)
      · rw [if_pos c_6] at h
        refine lv_iconst (v := (-1)) hx hb dX11_duel_42 (by decide) ?_
        obtain ⟨rfl, rfl, rfl⟩ := sm_inj h
        exact gx_ri (post := gq_p (-1) σ_5 τ_5) (v := (-1)) S hr hlk hw rfl dX11_duel_43 ⟨rfl, rfl, rfl⟩
      · rw [if_neg c_6] at h
        refine lv_iload hx hb dX11_duel_31 (lv_at hl 5 rfl) ?_
        refine lv_if_lt (tgt := 42) hx hb dX11_duel_33 (by decide) (fun c_7 => ?_) (fun c_7 => ?_)
        · rw [if_pos c_7] at h
          refine lv_iconst (v := (-1)) hx hb dX11_duel_42 (by decide) ?_
          obtain ⟨rfl, rfl, rfl⟩ := sm_inj h
          exact gx_ri (post := gq_p (-1) σ_5 τ_5) (v := (-1)) S hr hlk hw rfl dX11_duel_43 ⟨rfl, rfl, rfl⟩
        · rw [if_neg c_7] at h
          refine lv_iload hx hb dX11_duel_36 (lv_at hl 5 rfl) ?_
          refine lv_iconst (v := 3) hx hb dX11_duel_38 (by decide) ?_
          refine lv_icmp_le (tgt := 44) hx hb dX11_duel_39 (by decide) (fun c_8 => ?_) (fun c_8 => ?_)
          · rw [if_pos c_8] at h
            refine lv_aload_n hx hb dX11_duel_44 rfl (lv_at hl 0 rfl) ?_
            refine gx_getr (j := 160) S hK hw t_0 cl_12 15 (by decide) rfl mw_462 rfl dX11_duel_45 ?_
            refine lv_iload_n hx hb dX11_duel_48 rfl (lv_at hl 1 rfl) ?_
            refine lv_iload_n hx hb dX11_duel_49 rfl (lv_at hl 2 rfl) ?_
            refine lv_iload_n hx hb dX11_duel_50 rfl (lv_at hl 3 rfl) ?_
            refine lv_iconst (v := 0) hx hb dX11_duel_51 (by decide) ?_
            refine lv_aload_n hx hb dX11_duel_52 rfl (lv_at hl 0 rfl) ?_
            refine gx_getr (j := 30) S hK hw t_0 cl_12 7 (by decide) rfl mw_454 rfl dX11_duel_53 ?_
            refine gx_get S hK hw t_30 cl_7 8 (by decide) rfl mw_280 rfl dX11_duel_56 ?_
            obtain ⟨u_9, σ_9, τ_9, q_9, h⟩ := bd_some h
            refine gx_cVv (As := [.int x1, .int x2, .int x3, .int 0, .int (σ_5 30 8)]) (rest := []) S hK gx_ok hw (c_X9_thinkOf l (E := E) N σ_5 τ_5 x1 x2 x3 0 (σ_5 30 8) q_9) cw_X11_327 t_160 cl_10 ⟨Nat.le_of_ble_eq_true rfl, Nat.le_of_ble_eq_true rfl⟩ rfl hl.1 rfl (Nat.le_of_ble_eq_true rfl) ⟨Nat.le_of_ble_eq_true rfl, Nat.le_of_ble_eq_true rfl⟩ dX11_duel_59 (fun σ9 τ9 H locs hp hw => ?_)
            obtain ⟨rfl, rfl⟩ := hp
            refine lv_aload_n hx hb dX11_duel_62 rfl (lv_at hl 0 rfl) ?_
            refine gx_getr (j := 160) S hK hw t_0 cl_12 15 (by decide) rfl mw_462 rfl dX11_duel_63 ?_
            obtain ⟨u_10, σ_10, τ_10, q_10, h⟩ := bd_some h
            refine gx_cVv (As := []) (rest := []) S hK gx_ok hw (c_X9_forgetSets l (E := E) N σ_9 τ_9 q_10) cw_X11_350 t_160 cl_10 ⟨Nat.le_of_ble_eq_true rfl, Nat.le_of_ble_eq_true rfl⟩ rfl hl.1 rfl (Nat.le_of_ble_eq_true rfl) ⟨Nat.le_of_ble_eq_true rfl, Nat.le_of_ble_eq_true rfl⟩ dX11_duel_66 (fun σ9 τ9 H locs hp hw => ?_)
            obtain ⟨rfl, rfl⟩ := hp
            refine lv_iconst (v := (-1)) hx hb dX11_duel_69 (by decide) ?_
            refine lv_istore (lv' := [(6, .int (-1)), (0, .ref (E.2.2 + 0)), (1, .int x1), (2, .int x2), (3, .int x3), (4, .int x4), (5, .int x5)]) hx hb dX11_duel_70 hl (by decide) rfl (fun ls hl => ?_)
            refine lv_aload_n hx hb dX11_duel_72 rfl (lv_at hl 1 rfl) ?_
            refine lv_aload_n hx hb dX11_duel_73 rfl (lv_at hl 1 rfl) ?_
            refine gx_getr (j := 30) S hK hw t_0 cl_12 7 (by decide) rfl mw_454 rfl dX11_duel_74 ?_
            refine gx_get S hK hw t_30 cl_7 7 (by decide) rfl mw_276 rfl dX11_duel_77 ?_
            refine lv_iload hx hb dX11_duel_80 (lv_at hl 5 rfl) ?_
            refine lv_iconst (v := 0) hx hb dX11_duel_82 (by decide) ?_
            refine lv_iload hx hb dX11_duel_83 (lv_at hl 6 rfl) ?_
            refine lv_iconst (v := 1) hx hb dX11_duel_85 (by decide) ?_
            refine lv_isub hx hb dX11_duel_86 ?_
            refine gx_max (w := imax 0 (x5 - 1)) S hl.1 mw_789 mw_577 mw_102 mw_578 ⟨Nat.le_of_ble_eq_true rfl, Nat.le_of_ble_eq_true rfl⟩ ⟨Nat.le_of_ble_eq_true rfl, Nat.le_of_ble_eq_true rfl⟩ dX11_duel_87 rfl ?_
            refine lv_iconst (v := 0) hx hb dX11_duel_90 (by decide) ?_
            obtain ⟨r_11, σ_11, τ_11, q_11, h⟩ := bd_some h
            refine gx_cVi (As := [.int (σ_10 30 7), .int x4, .int (imax 0 (x5 - 1)), .int 0]) (rest := []) S hK gx_ok hw ((c_X11_firstGets l (E := E) N 5) σ_10 τ_10 (σ_10 30 7) x4 (imax 0 (x5 - 1)) 0 _ _ _ q_11) cw_X11_362 t_0 cl_12 ⟨Nat.le_of_ble_eq_true rfl, Nat.le_of_ble_eq_true rfl⟩ rfl hl.1 rfl (Nat.le_of_ble_eq_true rfl) ⟨Nat.le_of_ble_eq_true rfl, Nat.le_of_ble_eq_true rfl⟩ dX11_duel_91 (fun r9 σ9 τ9 H locs hp hw => ?_)
            obtain ⟨rfl, rfl, rfl⟩ := hp
            refine lv_istore (lv' := [(7, .int r_11), (6, .int (-1)), (0, .ref (E.2.2 + 0)), (1, .int x1), (2, .int x2), (3, .int x3), (4, .int x4), (5, .int x5)]) hx hb dX11_duel_94 hl (by decide) rfl (fun ls hl => ?_)
            refine lv_iconst (v := 0) hx hb dX11_duel_96 (by decide) ?_
            refine lv_istore (lv' := [(8, .int 0), (7, .int r_11), (6, .int (-1)), (0, .ref (E.2.2 + 0)), (1, .int x1), (2, .int x2), (3, .int x3), (4, .int x4), (5, .int x5)]) hx hb dX11_duel_97 hl (by decide) rfl (fun ls hl => ?_)
            exact h_X11_duel_99 l S hr hlk hK N N σ_11 τ_11 x4 x5 (-1) r_11 0 _ _ _ h _ _ _ hw (lv_sub hl [3, 7, 8, 2, 1, 0] rfl)
          · rw [if_neg c_8] at h
            refine lv_iconst (v := (-1)) hx hb dX11_duel_42 (by decide) ?_
            obtain ⟨rfl, rfl, rfl⟩ := sm_inj h
            exact gx_ri (post := gq_p (-1) σ_5 τ_5) (v := (-1)) S hr hlk hw rfl dX11_duel_43 ⟨rfl, rfl, rfl⟩
set_option maxHeartbeats 4000000 in
set_option maxRecDepth 100000 in
theorem c_X11_duel (l : Launch) {E : gE} (N : Nat) (σ : gI) (τ : gJ) (x1 : Int32) (x2 : Int32) (x3 : Int32) (x4 : Int32) (x5 : Int32) {r : Int32} {σ1 : gI} {τ1 : gJ} (h : B_X11_duel_0 N σ τ x1 x2 x3 x4 x5 = some (r, σ1, τ1)) : gx_Mi l yX11_duel cX11_duel 9 (some .int) 31 gx_tb E σ τ [.ref (E.2.2 + 0), .int x1, .int x2, .int x3, .int x4, .int x5] (gq_p r σ1 τ1) := by
  refine gx_bi (by decide +kernel) (Nat.le_of_ble_eq_true rfl) ?_
  intro P9 e9 s m9 below meth C9 S hr hlk hK hw ls hl
  have hl : lv_has ls 9 [(0, .ref (E.2.2 + 0)), (1, .int x1), (2, .int x2), (3, .int x3), (4, .int x4), (5, .int x5)] := hl
  exact b_X11_duel_0 l S hr hlk hK N σ τ x1 x2 x3 x4 x5 h hw hl
/-! X11_end -/
def B_X11_end_0 (N : Nat) (σ : gI) (τ : gJ) (x1 : Int32) : Option (Int32 × gI × gJ) := bd (B_X7_cut_0 N σ τ x1) fun r_1 σ_1 τ_1 => cb r_1 <| some (r_1, σ_1, τ_1)
set_option maxHeartbeats 4000000 in
set_option maxRecDepth 100000 in
theorem b_X11_end_0 (l : Launch) (S : CallFix P9 m9 C9 cX11_end 2 s av.toArray gx_G RX11) (hr : meth.sig.returnType = (some .boolean)) (hlk : meth.locks = false) (hK : gx_K E s) (N : Nat) (σ : gI) (τ : gJ) (x1 : Int32) {r : Int32} {σ1 : gI} {τ1 : gJ} (h : B_X11_end_0 N σ τ x1 = some (r, σ1, τ1)) {H : Heap} {locs : List Loc} {ls : Array Slot} (hw : gx_W gx_tb gx_tb.length E s σ τ H locs) (hl : lv_has ls 2 [(0, .ref (E.2.2 + 0)), (1, .int x1)]) : W P9 l e9 (gx_rm 1) s m9 av.toArray below meth C9 H locs 0 0 (gq_Qi below av s E r σ1 τ1) (F0 m9 0 ls []) := by
  have hx := S.1
  have hb := S.2.1
  unfold B_X11_end_0 at h
  refine lv_aload_n hx hb dX11_end_0 rfl (lv_at hl 0 rfl) ?_
  refine gx_getr (j := 1) S hK hw t_0 cl_12 0 (by decide) rfl mw_447 rfl dX11_end_1 ?_
  refine lv_iload_n hx hb dX11_end_4 rfl (lv_at hl 1 rfl) ?_
  obtain ⟨r_1, σ_1, τ_1, q_1, h⟩ := bd_some h
  refine gx_cVi (As := [.int x1]) (rest := []) S hK gx_ok hw (c_X7_cut l (E := E) N σ τ x1 q_1) cw_X11_111 t_1 cl_8 ⟨Nat.le_of_ble_eq_true rfl, Nat.le_of_ble_eq_true rfl⟩ rfl hl.1 rfl (Nat.le_of_ble_eq_true rfl) ⟨Nat.le_of_ble_eq_true rfl, Nat.le_of_ble_eq_true rfl⟩ dX11_end_5 (fun r9 σ9 τ9 H locs hp hw => ?_)
  obtain ⟨rfl, rfl, rfl⟩ := hp
  obtain ⟨hq_2, h⟩ := cb_some h
  obtain ⟨rfl, rfl, rfl⟩ := sm_inj h
  exact gx_ri (post := gq_p r_1 σ_1 τ_1) (v := r_1) S hr hlk hw (cb_nar hq_2) dX11_end_8 ⟨rfl, rfl, rfl⟩
set_option maxHeartbeats 4000000 in
set_option maxRecDepth 100000 in
theorem c_X11_end (l : Launch) {E : gE} (N : Nat) (σ : gI) (τ : gJ) (x1 : Int32) {r : Int32} {σ1 : gI} {τ1 : gJ} (h : B_X11_end_0 N σ τ x1 = some (r, σ1, τ1)) : gx_Mi l yX11_end cX11_end 2 (some .boolean) 1 gx_tb E σ τ [.ref (E.2.2 + 0), .int x1] (gq_p r σ1 τ1) := by
  refine gx_bi (by decide +kernel) (Nat.le_of_ble_eq_true rfl) ?_
  intro P9 e9 s m9 below meth C9 S hr hlk hK hw ls hl
  have hl : lv_has ls 2 [(0, .ref (E.2.2 + 0)), (1, .int x1)] := hl
  exact b_X11_end_0 l S hr hlk hK N σ τ x1 h hw hl
/-! X11_entry -/
def B_X11_entry_0 (N : Nat) (σ : gI) (τ : gJ) (x0 : Int32) (x1 : Int32) : Option (Int32 × gI × gJ) := if x0 = 0 then (nm (x1.toInt8.toInt32) fun v_4 => some (imax 0 (imin 99 v_4), σ, τ)) else (if x0 = 1 then (nm (x1.toInt16.toInt32) fun v_3 => some (imax 0 (imin 99 v_3), σ, τ)) else (some (imax 0 (imin 99 x1), σ, τ)))
set_option maxHeartbeats 4000000 in
set_option maxRecDepth 100000 in
theorem b_X11_entry_0 (l : Launch) (S : CallFix P9 m9 C9 cX11_entry 3 s av.toArray gx_G RX11) (hr : meth.sig.returnType = (some .int)) (hlk : meth.locks = false) (hK : gx_K E s) (N : Nat) (σ : gI) (τ : gJ) (x0 : Int32) (x1 : Int32) {r : Int32} {σ1 : gI} {τ1 : gJ} (h : B_X11_entry_0 N σ τ x0 x1 = some (r, σ1, τ1)) {H : Heap} {locs : List Loc} {ls : Array Slot} (hw : gx_W gx_tb gx_tb.length E s σ τ H locs) (hl : lv_has ls 3 [(0, .int x0), (1, .int x1)]) : W P9 l e9 (gx_rm 1) s m9 av.toArray below meth C9 H locs 0 0 (gq_Qi below av s E r σ1 τ1) (F0 m9 0 ls []) := by
  have hx := S.1
  have hb := S.2.1
  unfold B_X11_entry_0 at h
  refine lv_iload_n hx hb dX11_entry_0 rfl (lv_at hl 0 rfl) ?_
  refine lv_if_ne (tgt := 9) hx hb dX11_entry_1 (by decide) (fun c_1 => ?_) (fun c_1 => ?_)
  · rw [if_neg c_1] at h
    refine lv_iload_n hx hb dX11_entry_9 rfl (lv_at hl 0 rfl) ?_
    refine lv_iconst (v := 1) hx hb dX11_entry_10 (by decide) ?_
    refine lv_icmp_ne (tgt := 19) hx hb dX11_entry_11 (by decide) (fun c_2 => ?_) (fun c_2 => ?_)
    · rw [if_neg c_2] at h
      refine lv_iload_n hx hb dX11_entry_19 rfl (lv_at hl 1 rfl) ?_
      refine lv_istore_n (lv' := [(2, .int x1), (0, .int x0), (1, .int x1)]) hx hb dX11_entry_20 rfl hl (by decide) rfl (fun ls hl => ?_)
      refine lv_iconst (v := 0) hx hb dX11_entry_21 (by decide) ?_
      refine lv_bipush (v := 99) hx hb dX11_entry_22 (by decide) ?_
      refine lv_iload_n hx hb dX11_entry_24 rfl (lv_at hl 0 rfl) ?_
      refine gx_min (w := imin 99 x1) S hl.1 mw_788 mw_529 mw_102 mw_530 ⟨Nat.le_of_ble_eq_true rfl, Nat.le_of_ble_eq_true rfl⟩ ⟨Nat.le_of_ble_eq_true rfl, Nat.le_of_ble_eq_true rfl⟩ dX11_entry_25 rfl ?_
      refine gx_max (w := imax 0 (imin 99 x1)) S hl.1 mw_789 mw_577 mw_102 mw_578 ⟨Nat.le_of_ble_eq_true rfl, Nat.le_of_ble_eq_true rfl⟩ ⟨Nat.le_of_ble_eq_true rfl, Nat.le_of_ble_eq_true rfl⟩ dX11_entry_28 rfl ?_
      obtain ⟨rfl, rfl, rfl⟩ := sm_inj h
      exact gx_ri (post := gq_p (imax 0 (imin 99 x1)) σ τ) (v := imax 0 (imin 99 x1)) S hr hlk hw rfl dX11_entry_31 ⟨rfl, rfl, rfl⟩
    · rw [if_pos c_2] at h
      refine lv_iload_n hx hb dX11_entry_14 rfl (lv_at hl 1 rfl) ?_
      refine lv_i2s (v := x1.toInt16.toInt32) hx hb dX11_entry_15 rfl ?_
      refine lv_goto (tgt := 20) hx hb dX11_entry_16 (by decide) ?_
      refine lv_istore_n (lv' := [(2, .int x1.toInt16.toInt32), (0, .int x0), (1, .int x1)]) hx hb dX11_entry_20 rfl hl (by decide) rfl (fun ls hl => ?_)
      obtain ⟨v_3, e_3, h⟩ := nm_some h
      have hl : lv_has ls 3 [(2, .int v_3), (0, .int x0), (1, .int x1)] := by rw [e_3]; exact hl
      refine lv_iconst (v := 0) hx hb dX11_entry_21 (by decide) ?_
      refine lv_bipush (v := 99) hx hb dX11_entry_22 (by decide) ?_
      refine lv_iload_n hx hb dX11_entry_24 rfl (lv_at hl 0 rfl) ?_
      refine gx_min (w := imin 99 v_3) S hl.1 mw_788 mw_529 mw_102 mw_530 ⟨Nat.le_of_ble_eq_true rfl, Nat.le_of_ble_eq_true rfl⟩ ⟨Nat.le_of_ble_eq_true rfl, Nat.le_of_ble_eq_true rfl⟩ dX11_entry_25 rfl ?_
      refine gx_max (w := imax 0 (imin 99 v_3)) S hl.1 mw_789 mw_577 mw_102 mw_578 ⟨Nat.le_of_ble_eq_true rfl, Nat.le_of_ble_eq_true rfl⟩ ⟨Nat.le_of_ble_eq_true rfl, Nat.le_of_ble_eq_true rfl⟩ dX11_entry_28 rfl ?_
      obtain ⟨rfl, rfl, rfl⟩ := sm_inj h
      exact gx_ri (post := gq_p (imax 0 (imin 99 v_3)) σ τ) (v := imax 0 (imin 99 v_3)) S hr hlk hw rfl dX11_entry_31 ⟨rfl, rfl, rfl⟩
  · rw [if_pos c_1] at h
    refine lv_iload_n hx hb dX11_entry_4 rfl (lv_at hl 1 rfl) ?_
    refine lv_i2b (v := x1.toInt8.toInt32) hx hb dX11_entry_5 rfl ?_
    refine lv_goto (tgt := 20) hx hb dX11_entry_6 (by decide) ?_
    refine lv_istore_n (lv' := [(2, .int x1.toInt8.toInt32), (0, .int x0), (1, .int x1)]) hx hb dX11_entry_20 rfl hl (by decide) rfl (fun ls hl => ?_)
    obtain ⟨v_4, e_4, h⟩ := nm_some h
    have hl : lv_has ls 3 [(2, .int v_4), (0, .int x0), (1, .int x1)] := by rw [e_4]; exact hl
    refine lv_iconst (v := 0) hx hb dX11_entry_21 (by decide) ?_
    refine lv_bipush (v := 99) hx hb dX11_entry_22 (by decide) ?_
    refine lv_iload_n hx hb dX11_entry_24 rfl (lv_at hl 0 rfl) ?_
    refine gx_min (w := imin 99 v_4) S hl.1 mw_788 mw_529 mw_102 mw_530 ⟨Nat.le_of_ble_eq_true rfl, Nat.le_of_ble_eq_true rfl⟩ ⟨Nat.le_of_ble_eq_true rfl, Nat.le_of_ble_eq_true rfl⟩ dX11_entry_25 rfl ?_
    refine gx_max (w := imax 0 (imin 99 v_4)) S hl.1 mw_789 mw_577 mw_102 mw_578 ⟨Nat.le_of_ble_eq_true rfl, Nat.le_of_ble_eq_true rfl⟩ ⟨Nat.le_of_ble_eq_true rfl, Nat.le_of_ble_eq_true rfl⟩ dX11_entry_28 rfl ?_
    obtain ⟨rfl, rfl, rfl⟩ := sm_inj h
    exact gx_ri (post := gq_p (imax 0 (imin 99 v_4)) σ τ) (v := imax 0 (imin 99 v_4)) S hr hlk hw rfl dX11_entry_31 ⟨rfl, rfl, rfl⟩
set_option maxHeartbeats 4000000 in
set_option maxRecDepth 100000 in
theorem c_X11_entry (l : Launch) {E : gE} (N : Nat) (σ : gI) (τ : gJ) (x0 : Int32) (x1 : Int32) {r : Int32} {σ1 : gI} {τ1 : gJ} (h : B_X11_entry_0 N σ τ x0 x1 = some (r, σ1, τ1)) : gx_Mi l yX11_entry cX11_entry 3 (some .int) 1 gx_tb E σ τ [.int x0, .int x1] (gq_p r σ1 τ1) := by
  refine gx_bi (by decide +kernel) (Nat.le_of_ble_eq_true rfl) ?_
  intro P9 e9 s m9 below meth C9 S hr hlk hK hw ls hl
  have hl : lv_has ls 3 [(0, .int x0), (1, .int x1)] := hl
  exact b_X11_entry_0 l S hr hlk hK N σ τ x0 x1 h hw hl
/-! X11_fewestTurns -/
def B_X11_fewestTurns_89 (N : Nat) (rec_21 : gI → gJ → Int32 → Int32 → Int32 → Int32 → Int32 → Int32 → Option (Int32 × gI × gJ)) (σ : gI) (τ : gJ) (x1 : Int32) (x5 : Int32) (x6 : Int32) (x7 : Int32) (x8 : Int32) : Option (Int32 × gI × gJ) := bd (B_X11_minutesOf_0 N σ τ x8) fun r_1 σ_1 τ_1 => bd (B_X8_nextSet_0 N σ_1 τ_1 x5) fun r_2 σ_2 τ_2 => nm (x6 + 1) fun v_3 => rec_21 σ_2 τ_2 x1 x7 x5 r_1 r_2 v_3
def B_X11_fewestTurns_67 (N : Nat) (rec_21 : gI → gJ → Int32 → Int32 → Int32 → Int32 → Int32 → Int32 → Option (Int32 × gI × gJ)) (σ : gI) (τ : gJ) (x1 : Int32) (x2 : Int32) (x3 : Int32) (x4 : Int32) (x5 : Int32) (x6 : Int32) (x7 : Int32) (y0 : Int32) : Option (Int32 × gI × gJ) := if y0 = (-1) then (bd (B_X8_nextSet_0 N σ τ x5) fun r_2 σ_2 τ_2 => nm (x6 + 1) fun v_3 => rec_21 σ_2 τ_2 x1 x2 x3 x4 r_2 v_3) else (if x1 = (-1) then (B_X11_fewestTurns_89 N rec_21 σ τ x1 x5 x6 x7 y0) else (bd (B_X11_isIn_0 N σ τ y0 x1) fun r_5 σ_5 τ_5 => if r_5 = 0 then (bd (B_X8_nextSet_0 N σ_5 τ_5 x5) fun r_7 σ_7 τ_7 => nm (x6 + 1) fun v_8 => rec_21 σ_7 τ_7 x1 x2 x3 x4 r_7 v_8) else (B_X11_fewestTurns_89 N rec_21 σ_5 τ_5 x1 x5 x6 x7 y0)))
def C_X11_fewestTurns_21 (N : Nat) (rec_21 : gI → gJ → Int32 → Int32 → Int32 → Int32 → Int32 → Int32 → Option (Int32 × gI × gJ)) (σ : gI) (τ : gJ) (x1 : Int32) (x2 : Int32) (x3 : Int32) (x4 : Int32) (x5 : Int32) (x6 : Int32) : Option (Int32 × gI × gJ) := if σ 3 8 ≤ x6 then (if x3 = (-1) then (some ((-2), σ, τ)) else (bd (B_X4_tell__0 N σ τ x3.toInt64 x4.toInt64) fun _ σ_3 τ_3 => some (x2, σ_3, τ_3))) else (bd (B_J6_bitCount_0f7a4_0 N σ τ x5) fun r_4 σ_4 τ_4 => if x2 ≤ r_4 then (B_X11_fewestTurns_67 N rec_21 σ_4 τ_4 x1 x2 x3 x4 x5 x6 r_4 (-1)) else (bd (B_X9_outcome_0 N σ_4 τ_4 ((σ_4 30 7) ^^^ x5)) fun r_6 σ_6 τ_6 => B_X11_fewestTurns_67 N rec_21 σ_6 τ_6 x1 x2 x3 x4 x5 x6 r_4 r_6))
def H_X11_fewestTurns_21 (N : Nat) : Nat → gI → gJ → Int32 → Int32 → Int32 → Int32 → Int32 → Int32 → Option (Int32 × gI × gJ) := itn (fun rec_21 => C_X11_fewestTurns_21 N rec_21) (fun _ _ _ _ _ _ _ _ => none)
def B_X11_fewestTurns_0 (N : Nat) (σ : gI) (τ : gJ) (x1 : Int32) : Option (Int32 × gI × gJ) := bd (B_X9_forgetSets_0 N σ τ) fun _ σ_1 τ_1 => H_X11_fewestTurns_21 N N σ_1 τ_1 x1 13 (-1) 0 0 0
set_option maxHeartbeats 4000000 in
set_option maxRecDepth 100000 in
theorem b_X11_fewestTurns_89 (l : Launch) (S : CallFix P9 m9 C9 cX11_fewestTurns 9 s av.toArray gx_G RX11) (hr : meth.sig.returnType = (some .int)) (hlk : meth.locks = false) (hK : gx_K E s) (N : Nat) (rec_21 : gI → gJ → Int32 → Int32 → Int32 → Int32 → Int32 → Int32 → Option (Int32 × gI × gJ)) (hrec_21 : ∀ (σ : gI) (τ : gJ) (x1 : Int32) (x2 : Int32) (x3 : Int32) (x4 : Int32) (x5 : Int32) (x6 : Int32) (r : Int32) (σ1 : gI) (τ1 : gJ) (H : Heap) (locs : List Loc) (ls : Array Slot), rec_21 σ τ x1 x2 x3 x4 x5 x6 = some (r, σ1, τ1) → gx_W gx_tb gx_tb.length E s σ τ H locs → lv_has ls 9 [(0, .ref (E.2.2 + 0)), (1, .int x1), (2, .int x2), (3, .int x3), (4, .int x4), (5, .int x5), (6, .int x6)] → W P9 l e9 (gx_rm 6) s m9 av.toArray below meth C9 H locs 0 0 (gq_Qi below av s E r σ1 τ1) (F0 m9 21 ls [])) (σ : gI) (τ : gJ) (x1 : Int32) (x5 : Int32) (x6 : Int32) (x7 : Int32) (x8 : Int32) {r : Int32} {σ1 : gI} {τ1 : gJ} (h : B_X11_fewestTurns_89 N rec_21 σ τ x1 x5 x6 x7 x8 = some (r, σ1, τ1)) {H : Heap} {locs : List Loc} {ls : Array Slot} (hw : gx_W gx_tb gx_tb.length E s σ τ H locs) (hl : lv_has ls 9 [(0, .ref (E.2.2 + 0)), (1, .int x1), (5, .int x5), (6, .int x6), (7, .int x7), (8, .int x8)]) : W P9 l e9 (gx_rm 6) s m9 av.toArray below meth C9 H locs 0 0 (gq_Qi below av s E r σ1 τ1) (F0 m9 89 ls []) := by
  have hx := S.1
  have hb := S.2.1
  unfold B_X11_fewestTurns_89 at h
  refine lv_iload hx hb dX11_fewestTurns_89 (lv_at hl 4 rfl) ?_
  refine lv_istore_n (lv' := [(2, .int x7), (0, .ref (E.2.2 + 0)), (1, .int x1), (5, .int x5), (6, .int x6), (7, .int x7), (8, .int x8)]) hx hb dX11_fewestTurns_91 rfl hl (by decide) rfl (fun ls hl => ?_)
  refine lv_iload hx hb dX11_fewestTurns_92 (lv_at hl 3 rfl) ?_
  refine lv_istore_n (lv' := [(3, .int x5), (2, .int x7), (0, .ref (E.2.2 + 0)), (1, .int x1), (5, .int x5), (6, .int x6), (7, .int x7), (8, .int x8)]) hx hb dX11_fewestTurns_94 rfl hl (by decide) rfl (fun ls hl => ?_)
  refine lv_iload hx hb dX11_fewestTurns_95 (lv_at hl 7 rfl) ?_
  obtain ⟨r_1, σ_1, τ_1, q_1, h⟩ := bd_some h
  refine gx_cSi (As := [.int x8]) (rest := []) S hK gx_ok hw (c_X11_minutesOf l (E := E) N σ τ x8 q_1) cw_X11_320 ⟨Nat.le_of_ble_eq_true rfl, Nat.le_of_ble_eq_true rfl⟩ rfl hl.1 rfl (Nat.le_of_ble_eq_true rfl) ⟨Nat.le_of_ble_eq_true rfl, Nat.le_of_ble_eq_true rfl⟩ dX11_fewestTurns_97 (fun r9 σ9 τ9 H locs hp hw => ?_)
  obtain ⟨rfl, rfl, rfl⟩ := hp
  refine lv_istore (lv' := [(4, .int r_1), (3, .int x5), (2, .int x7), (0, .ref (E.2.2 + 0)), (1, .int x1), (5, .int x5), (6, .int x6), (7, .int x7), (8, .int x8)]) hx hb dX11_fewestTurns_100 hl (by decide) rfl (fun ls hl => ?_)
  refine lv_aload_n hx hb dX11_fewestTurns_102 rfl (lv_at hl 3 rfl) ?_
  refine gx_getr (j := 3) S hK hw t_0 cl_12 1 (by decide) rfl mw_448 rfl dX11_fewestTurns_103 ?_
  refine lv_iload hx hb dX11_fewestTurns_106 (lv_at hl 5 rfl) ?_
  obtain ⟨r_2, σ_2, τ_2, q_2, h⟩ := bd_some h
  refine gx_cVi (As := [.int x5]) (rest := []) S hK gx_ok hw (c_X8_nextSet l (E := E) N σ_1 τ_1 x5 q_2) cw_X11_359 t_3 cl_9 ⟨Nat.le_of_ble_eq_true rfl, Nat.le_of_ble_eq_true rfl⟩ rfl hl.1 rfl (Nat.le_of_ble_eq_true rfl) ⟨Nat.le_of_ble_eq_true rfl, Nat.le_of_ble_eq_true rfl⟩ dX11_fewestTurns_108 (fun r9 σ9 τ9 H locs hp hw => ?_)
  obtain ⟨rfl, rfl, rfl⟩ := hp
  refine lv_istore (lv' := [(5, .int r_2), (4, .int r_1), (3, .int x5), (2, .int x7), (0, .ref (E.2.2 + 0)), (1, .int x1), (6, .int x6), (7, .int x7), (8, .int x8)]) hx hb dX11_fewestTurns_111 hl (by decide) rfl (fun ls hl => ?_)
  refine lv_iinc (v := x6 + 1) (lv' := [(6, .int (x6 + 1)), (5, .int r_2), (4, .int r_1), (3, .int x5), (2, .int x7), (0, .ref (E.2.2 + 0)), (1, .int x1), (7, .int x7), (8, .int x8)]) hx hb dX11_fewestTurns_113 hl (k := 6) rfl rfl (by decide) rfl (fun ls hl => ?_)
  obtain ⟨v_3, e_3, h⟩ := nm_some h
  have hl : lv_has ls 9 [(6, .int v_3), (5, .int r_2), (4, .int r_1), (3, .int x5), (2, .int x7), (0, .ref (E.2.2 + 0)), (1, .int x1), (7, .int x7), (8, .int x8)] := by rw [e_3]; exact hl
  refine lv_goto (tgt := 21) hx hb dX11_fewestTurns_116 (by decide) ?_
  exact hrec_21 σ_2 τ_2 x1 x7 x5 r_1 r_2 v_3 _ _ _ _ _ _ h hw (lv_sub hl [5, 6, 4, 3, 2, 1, 0] rfl)
set_option maxHeartbeats 4000000 in
set_option maxRecDepth 100000 in
theorem b_X11_fewestTurns_67 (l : Launch) (S : CallFix P9 m9 C9 cX11_fewestTurns 9 s av.toArray gx_G RX11) (hr : meth.sig.returnType = (some .int)) (hlk : meth.locks = false) (hK : gx_K E s) (N : Nat) (rec_21 : gI → gJ → Int32 → Int32 → Int32 → Int32 → Int32 → Int32 → Option (Int32 × gI × gJ)) (hrec_21 : ∀ (σ : gI) (τ : gJ) (x1 : Int32) (x2 : Int32) (x3 : Int32) (x4 : Int32) (x5 : Int32) (x6 : Int32) (r : Int32) (σ1 : gI) (τ1 : gJ) (H : Heap) (locs : List Loc) (ls : Array Slot), rec_21 σ τ x1 x2 x3 x4 x5 x6 = some (r, σ1, τ1) → gx_W gx_tb gx_tb.length E s σ τ H locs → lv_has ls 9 [(0, .ref (E.2.2 + 0)), (1, .int x1), (2, .int x2), (3, .int x3), (4, .int x4), (5, .int x5), (6, .int x6)] → W P9 l e9 (gx_rm 6) s m9 av.toArray below meth C9 H locs 0 0 (gq_Qi below av s E r σ1 τ1) (F0 m9 21 ls [])) (σ : gI) (τ : gJ) (x1 : Int32) (x2 : Int32) (x3 : Int32) (x4 : Int32) (x5 : Int32) (x6 : Int32) (x7 : Int32) (y0 : Int32) {r : Int32} {σ1 : gI} {τ1 : gJ} (h : B_X11_fewestTurns_67 N rec_21 σ τ x1 x2 x3 x4 x5 x6 x7 y0 = some (r, σ1, τ1)) {H : Heap} {locs : List Loc} {ls : Array Slot} (hw : gx_W gx_tb gx_tb.length E s σ τ H locs) (hl : lv_has ls 9 [(0, .ref (E.2.2 + 0)), (1, .int x1), (2, .int x2), (3, .int x3), (4, .int x4), (5, .int x5), (6, .int x6), (7, .int x7)]) : W P9 l e9 (gx_rm 6) s m9 av.toArray below meth C9 H locs 0 0 (gq_Qi below av s E r σ1 τ1) (F0 m9 67 ls [.int y0]) := by
  have hx := S.1
  have hb := S.2.1
  unfold B_X11_fewestTurns_67 at h
  refine lv_istore (lv' := [(8, .int y0), (0, .ref (E.2.2 + 0)), (1, .int x1), (2, .int x2), (3, .int x3), (4, .int x4), (5, .int x5), (6, .int x6), (7, .int x7)]) hx hb dX11_fewestTurns_67 hl (by decide) rfl (fun ls hl => ?_)
  refine lv_iload hx hb dX11_fewestTurns_69 (lv_at hl 0 rfl) ?_
  refine lv_iconst (v := (-1)) hx hb dX11_fewestTurns_71 (by decide) ?_
  refine lv_icmp_eq (tgt := 102) hx hb dX11_fewestTurns_72 (by decide) (fun c_1 => ?_) (fun c_1 => ?_)
  · rw [if_pos c_1] at h
    refine lv_aload_n hx hb dX11_fewestTurns_102 rfl (lv_at hl 1 rfl) ?_
    refine gx_getr (j := 3) S hK hw t_0 cl_12 1 (by decide) rfl mw_448 rfl dX11_fewestTurns_103 ?_
    refine lv_iload hx hb dX11_fewestTurns_106 (lv_at hl 6 rfl) ?_
    obtain ⟨r_2, σ_2, τ_2, q_2, h⟩ := bd_some h
    refine gx_cVi (As := [.int x5]) (rest := []) S hK gx_ok hw (c_X8_nextSet l (E := E) N σ τ x5 q_2) cw_X11_359 t_3 cl_9 ⟨Nat.le_of_ble_eq_true rfl, Nat.le_of_ble_eq_true rfl⟩ rfl hl.1 rfl (Nat.le_of_ble_eq_true rfl) ⟨Nat.le_of_ble_eq_true rfl, Nat.le_of_ble_eq_true rfl⟩ dX11_fewestTurns_108 (fun r9 σ9 τ9 H locs hp hw => ?_)
    obtain ⟨rfl, rfl, rfl⟩ := hp
    refine lv_istore (lv' := [(5, .int r_2), (8, .int y0), (0, .ref (E.2.2 + 0)), (1, .int x1), (2, .int x2), (3, .int x3), (4, .int x4), (6, .int x6), (7, .int x7)]) hx hb dX11_fewestTurns_111 hl (by decide) rfl (fun ls hl => ?_)
    refine lv_iinc (v := x6 + 1) (lv' := [(6, .int (x6 + 1)), (5, .int r_2), (8, .int y0), (0, .ref (E.2.2 + 0)), (1, .int x1), (2, .int x2), (3, .int x3), (4, .int x4), (7, .int x7)]) hx hb dX11_fewestTurns_113 hl (k := 7) rfl rfl (by decide) rfl (fun ls hl => ?_)
    obtain ⟨v_3, e_3, h⟩ := nm_some h
    have hl : lv_has ls 9 [(6, .int v_3), (5, .int r_2), (8, .int y0), (0, .ref (E.2.2 + 0)), (1, .int x1), (2, .int x2), (3, .int x3), (4, .int x4), (7, .int x7)] := by rw [e_3]; exact hl
    refine lv_goto (tgt := 21) hx hb dX11_fewestTurns_116 (by decide) ?_
    exact hrec_21 σ_2 τ_2 x1 x2 x3 x4 r_2 v_3 _ _ _ _ _ _ h hw (lv_sub hl [3, 4, 5, 6, 7, 1, 0] rfl)
  · rw [if_neg c_1] at h
    refine lv_iload_n hx hb dX11_fewestTurns_75 rfl (lv_at hl 2 rfl) ?_
    refine lv_iconst (v := (-1)) hx hb dX11_fewestTurns_76 (by decide) ?_
    refine lv_icmp_eq (tgt := 89) hx hb dX11_fewestTurns_77 (by decide) (fun c_4 => ?_) (fun c_4 => ?_)
    · rw [if_pos c_4] at h
      exact b_X11_fewestTurns_89 l S hr hlk hK N rec_21 hrec_21 σ τ x1 x5 x6 x7 y0 h hw (lv_sub hl [1, 2, 6, 7, 8, 0] rfl)
    · rw [if_neg c_4] at h
      refine lv_iload hx hb dX11_fewestTurns_80 (lv_at hl 0 rfl) ?_
      refine lv_iload_n hx hb dX11_fewestTurns_82 rfl (lv_at hl 2 rfl) ?_
      obtain ⟨r_5, σ_5, τ_5, q_5, h⟩ := bd_some h
      refine gx_cSi (As := [.int y0, .int x1]) (rest := []) S hK gx_ok hw (c_X11_isIn l (E := E) N σ τ y0 x1 q_5) cw_X11_317 ⟨Nat.le_of_ble_eq_true rfl, Nat.le_of_ble_eq_true rfl⟩ rfl hl.1 rfl (Nat.le_of_ble_eq_true rfl) ⟨Nat.le_of_ble_eq_true rfl, Nat.le_of_ble_eq_true rfl⟩ dX11_fewestTurns_83 (fun r9 σ9 τ9 H locs hp hw => ?_)
      obtain ⟨rfl, rfl, rfl⟩ := hp
      refine lv_if_eq (tgt := 102) hx hb dX11_fewestTurns_86 (by decide) (fun c_6 => ?_) (fun c_6 => ?_)
      · rw [if_pos c_6] at h
        refine lv_aload_n hx hb dX11_fewestTurns_102 rfl (lv_at hl 1 rfl) ?_
        refine gx_getr (j := 3) S hK hw t_0 cl_12 1 (by decide) rfl mw_448 rfl dX11_fewestTurns_103 ?_
        refine lv_iload hx hb dX11_fewestTurns_106 (lv_at hl 6 rfl) ?_
        obtain ⟨r_7, σ_7, τ_7, q_7, h⟩ := bd_some h
        refine gx_cVi (As := [.int x5]) (rest := []) S hK gx_ok hw (c_X8_nextSet l (E := E) N σ_5 τ_5 x5 q_7) cw_X11_359 t_3 cl_9 ⟨Nat.le_of_ble_eq_true rfl, Nat.le_of_ble_eq_true rfl⟩ rfl hl.1 rfl (Nat.le_of_ble_eq_true rfl) ⟨Nat.le_of_ble_eq_true rfl, Nat.le_of_ble_eq_true rfl⟩ dX11_fewestTurns_108 (fun r9 σ9 τ9 H locs hp hw => ?_)
        obtain ⟨rfl, rfl, rfl⟩ := hp
        refine lv_istore (lv' := [(5, .int r_7), (8, .int y0), (0, .ref (E.2.2 + 0)), (1, .int x1), (2, .int x2), (3, .int x3), (4, .int x4), (6, .int x6), (7, .int x7)]) hx hb dX11_fewestTurns_111 hl (by decide) rfl (fun ls hl => ?_)
        refine lv_iinc (v := x6 + 1) (lv' := [(6, .int (x6 + 1)), (5, .int r_7), (8, .int y0), (0, .ref (E.2.2 + 0)), (1, .int x1), (2, .int x2), (3, .int x3), (4, .int x4), (7, .int x7)]) hx hb dX11_fewestTurns_113 hl (k := 7) rfl rfl (by decide) rfl (fun ls hl => ?_)
        obtain ⟨v_8, e_8, h⟩ := nm_some h
        have hl : lv_has ls 9 [(6, .int v_8), (5, .int r_7), (8, .int y0), (0, .ref (E.2.2 + 0)), (1, .int x1), (2, .int x2), (3, .int x3), (4, .int x4), (7, .int x7)] := by rw [e_8]; exact hl
        refine lv_goto (tgt := 21) hx hb dX11_fewestTurns_116 (by decide) ?_
        exact hrec_21 σ_7 τ_7 x1 x2 x3 x4 r_7 v_8 _ _ _ _ _ _ h hw (lv_sub hl [3, 4, 5, 6, 7, 1, 0] rfl)
      · rw [if_neg c_6] at h
        exact b_X11_fewestTurns_89 l S hr hlk hK N rec_21 hrec_21 σ_5 τ_5 x1 x5 x6 x7 y0 h hw (lv_sub hl [1, 2, 6, 7, 8, 0] rfl)
set_option maxHeartbeats 4000000 in
set_option maxRecDepth 100000 in
theorem k_X11_fewestTurns_21 (l : Launch) (S : CallFix P9 m9 C9 cX11_fewestTurns 9 s av.toArray gx_G RX11) (hr : meth.sig.returnType = (some .int)) (hlk : meth.locks = false) (hK : gx_K E s) (N : Nat) (rec_21 : gI → gJ → Int32 → Int32 → Int32 → Int32 → Int32 → Int32 → Option (Int32 × gI × gJ)) (hrec_21 : ∀ (σ : gI) (τ : gJ) (x1 : Int32) (x2 : Int32) (x3 : Int32) (x4 : Int32) (x5 : Int32) (x6 : Int32) (r : Int32) (σ1 : gI) (τ1 : gJ) (H : Heap) (locs : List Loc) (ls : Array Slot), rec_21 σ τ x1 x2 x3 x4 x5 x6 = some (r, σ1, τ1) → gx_W gx_tb gx_tb.length E s σ τ H locs → lv_has ls 9 [(0, .ref (E.2.2 + 0)), (1, .int x1), (2, .int x2), (3, .int x3), (4, .int x4), (5, .int x5), (6, .int x6)] → W P9 l e9 (gx_rm 6) s m9 av.toArray below meth C9 H locs 0 0 (gq_Qi below av s E r σ1 τ1) (F0 m9 21 ls [])) (σ : gI) (τ : gJ) (x1 : Int32) (x2 : Int32) (x3 : Int32) (x4 : Int32) (x5 : Int32) (x6 : Int32) {r : Int32} {σ1 : gI} {τ1 : gJ} (h : C_X11_fewestTurns_21 N rec_21 σ τ x1 x2 x3 x4 x5 x6 = some (r, σ1, τ1)) {H : Heap} {locs : List Loc} {ls : Array Slot} (hw : gx_W gx_tb gx_tb.length E s σ τ H locs) (hl : lv_has ls 9 [(0, .ref (E.2.2 + 0)), (1, .int x1), (2, .int x2), (3, .int x3), (4, .int x4), (5, .int x5), (6, .int x6)]) : W P9 l e9 (gx_rm 6) s m9 av.toArray below meth C9 H locs 0 0 (gq_Qi below av s E r σ1 τ1) (F0 m9 21 ls []) := by
  have hx := S.1
  have hb := S.2.1
  unfold C_X11_fewestTurns_21 at h
  refine lv_iload hx hb dX11_fewestTurns_21 (lv_at hl 6 rfl) ?_
  refine lv_aload_n hx hb dX11_fewestTurns_23 rfl (lv_at hl 0 rfl) ?_
  refine gx_getr (j := 3) S hK hw t_0 cl_12 1 (by decide) rfl mw_448 rfl dX11_fewestTurns_24 ?_
  refine gx_get S hK hw t_3 cl_9 8 (by decide) rfl mw_161 rfl dX11_fewestTurns_27 ?_
  refine lv_icmp_ge (tgt := 119) hx hb dX11_fewestTurns_30 (by decide) (fun c_1 => ?_) (fun c_1 => ?_)
  · rw [if_pos c_1] at h
    refine lv_iload_n hx hb dX11_fewestTurns_119 rfl (lv_at hl 3 rfl) ?_
    refine lv_iconst (v := (-1)) hx hb dX11_fewestTurns_120 (by decide) ?_
    refine lv_icmp_ne (tgt := 127) hx hb dX11_fewestTurns_121 (by decide) (fun c_2 => ?_) (fun c_2 => ?_)
    · rw [if_neg c_2] at h
      refine lv_aload_n hx hb dX11_fewestTurns_127 rfl (lv_at hl 0 rfl) ?_
      refine gx_getr (j := 156) S hK hw t_0 cl_12 13 (by decide) rfl mw_460 rfl dX11_fewestTurns_128 ?_
      refine lv_iload_n hx hb dX11_fewestTurns_131 rfl (lv_at hl 3 rfl) ?_
      refine lv_i2l (v := x3.toInt64) hx hb dX11_fewestTurns_132 rfl ?_
      refine lv_iload hx hb dX11_fewestTurns_133 (lv_at hl 4 rfl) ?_
      refine lv_i2l (v := x4.toInt64) hx hb dX11_fewestTurns_135 rfl ?_
      obtain ⟨u_3, σ_3, τ_3, q_3, h⟩ := bd_some h
      refine gx_cVv (As := [.long x3.toInt64, .long x4.toInt64]) (rest := []) S hK gx_ok hw (c_X4_tell_ l (E := E) N σ τ x3.toInt64 x4.toInt64 q_3) cw_X11_257 t_156 cl_5 ⟨Nat.le_of_ble_eq_true rfl, Nat.le_of_ble_eq_true rfl⟩ rfl hl.1 rfl (Nat.le_of_ble_eq_true rfl) ⟨Nat.le_of_ble_eq_true rfl, Nat.le_of_ble_eq_true rfl⟩ dX11_fewestTurns_136 (fun σ9 τ9 H locs hp hw => ?_)
      obtain ⟨rfl, rfl⟩ := hp
      refine lv_iload_n hx hb dX11_fewestTurns_139 rfl (lv_at hl 2 rfl) ?_
      obtain ⟨rfl, rfl, rfl⟩ := sm_inj h
      exact gx_ri (post := gq_p x2 σ_3 τ_3) (v := x2) S hr hlk hw rfl dX11_fewestTurns_140 ⟨rfl, rfl, rfl⟩
    · rw [if_pos c_2] at h
      refine lv_bipush (v := (-2)) hx hb dX11_fewestTurns_124 (by decide) ?_
      obtain ⟨rfl, rfl, rfl⟩ := sm_inj h
      exact gx_ri (post := gq_p (-2) σ τ) (v := (-2)) S hr hlk hw rfl dX11_fewestTurns_126 ⟨rfl, rfl, rfl⟩
  · rw [if_neg c_1] at h
    refine lv_iload hx hb dX11_fewestTurns_33 (lv_at hl 5 rfl) ?_
    obtain ⟨r_4, σ_4, τ_4, q_4, h⟩ := bd_some h
    refine gx_cSi (As := [.int x5]) (rest := []) S hK gx_ok hw (c_J6_bitCount_0f7a4 l (E := E) N σ τ x5 q_4) cw_X11_261 ⟨Nat.le_of_ble_eq_true rfl, Nat.le_of_ble_eq_true rfl⟩ rfl hl.1 rfl (Nat.le_of_ble_eq_true rfl) ⟨Nat.le_of_ble_eq_true rfl, Nat.le_of_ble_eq_true rfl⟩ dX11_fewestTurns_35 (fun r9 σ9 τ9 H locs hp hw => ?_)
    obtain ⟨rfl, rfl, rfl⟩ := hp
    refine lv_istore (lv' := [(7, .int r_4), (0, .ref (E.2.2 + 0)), (1, .int x1), (2, .int x2), (3, .int x3), (4, .int x4), (5, .int x5), (6, .int x6)]) hx hb dX11_fewestTurns_38 hl (by decide) rfl (fun ls hl => ?_)
    refine lv_iload hx hb dX11_fewestTurns_40 (lv_at hl 0 rfl) ?_
    refine lv_iload_n hx hb dX11_fewestTurns_42 rfl (lv_at hl 3 rfl) ?_
    refine lv_icmp_ge (tgt := 66) hx hb dX11_fewestTurns_43 (by decide) (fun c_5 => ?_) (fun c_5 => ?_)
    · rw [if_pos c_5] at h
      refine lv_iconst (v := (-1)) hx hb dX11_fewestTurns_66 (by decide) ?_
      exact b_X11_fewestTurns_67 l S hr hlk hK N rec_21 hrec_21 σ_4 τ_4 x1 x2 x3 x4 x5 x6 r_4 (-1) h hw (lv_sub hl [1, 2, 3, 4, 5, 6, 7, 0] rfl)
    · rw [if_neg c_5] at h
      refine lv_aload_n hx hb dX11_fewestTurns_46 rfl (lv_at hl 1 rfl) ?_
      refine gx_getr (j := 160) S hK hw t_0 cl_12 15 (by decide) rfl mw_462 rfl dX11_fewestTurns_47 ?_
      refine lv_aload_n hx hb dX11_fewestTurns_50 rfl (lv_at hl 1 rfl) ?_
      refine gx_getr (j := 30) S hK hw t_0 cl_12 7 (by decide) rfl mw_454 rfl dX11_fewestTurns_51 ?_
      refine gx_get S hK hw t_30 cl_7 7 (by decide) rfl mw_276 rfl dX11_fewestTurns_54 ?_
      refine lv_iload hx hb dX11_fewestTurns_57 (lv_at hl 6 rfl) ?_
      refine lv_ixor hx hb dX11_fewestTurns_59 ?_
      obtain ⟨r_6, σ_6, τ_6, q_6, h⟩ := bd_some h
      refine gx_cVi (As := [.int ((σ_4 30 7) ^^^ x5)]) (rest := []) S hK gx_ok hw (c_X9_outcome l (E := E) N σ_4 τ_4 ((σ_4 30 7) ^^^ x5) q_6) cw_X11_356 t_160 cl_10 ⟨Nat.le_of_ble_eq_true rfl, Nat.le_of_ble_eq_true rfl⟩ rfl hl.1 rfl (Nat.le_of_ble_eq_true rfl) ⟨Nat.le_of_ble_eq_true rfl, Nat.le_of_ble_eq_true rfl⟩ dX11_fewestTurns_60 (fun r9 σ9 τ9 H locs hp hw => ?_)
      obtain ⟨rfl, rfl, rfl⟩ := hp
      refine lv_goto (tgt := 67) hx hb dX11_fewestTurns_63 (by decide) ?_
      exact b_X11_fewestTurns_67 l S hr hlk hK N rec_21 hrec_21 σ_6 τ_6 x1 x2 x3 x4 x5 x6 r_4 r_6 h hw (lv_sub hl [1, 2, 3, 4, 5, 6, 7, 0] rfl)
set_option maxHeartbeats 4000000 in
set_option maxRecDepth 100000 in
theorem h_X11_fewestTurns_21 (l : Launch) (S : CallFix P9 m9 C9 cX11_fewestTurns 9 s av.toArray gx_G RX11) (hr : meth.sig.returnType = (some .int)) (hlk : meth.locks = false) (hK : gx_K E s) (N : Nat) : ∀ (n : Nat) (σ : gI) (τ : gJ) (x1 : Int32) (x2 : Int32) (x3 : Int32) (x4 : Int32) (x5 : Int32) (x6 : Int32) (r : Int32) (σ1 : gI) (τ1 : gJ), H_X11_fewestTurns_21 N n σ τ x1 x2 x3 x4 x5 x6 = some (r, σ1, τ1) → ∀ (H : Heap) (locs : List Loc) (ls : Array Slot), gx_W gx_tb gx_tb.length E s σ τ H locs → lv_has ls 9 [(0, .ref (E.2.2 + 0)), (1, .int x1), (2, .int x2), (3, .int x3), (4, .int x4), (5, .int x5), (6, .int x6)] → W P9 l e9 (gx_rm 6) s m9 av.toArray below meth C9 H locs 0 0 (gq_Qi below av s E r σ1 τ1) (F0 m9 21 ls []) := by
  intro n
  induction n with
  | zero => intro σ τ x1 x2 x3 x4 x5 x6 r σ1 τ1 h; cases h
  | succ n ih =>
    intro σ τ x1 x2 x3 x4 x5 x6 r σ1 τ1 h H locs ls hw hl
    exact k_X11_fewestTurns_21 l S hr hlk hK N (H_X11_fewestTurns_21 N n) (fun σ τ x1 x2 x3 x4 x5 x6 r σ1 τ1 H locs ls h hw hl => ih σ τ x1 x2 x3 x4 x5 x6 r σ1 τ1 h H locs ls hw hl) σ τ x1 x2 x3 x4 x5 x6 h hw hl
set_option maxHeartbeats 4000000 in
set_option maxRecDepth 100000 in
theorem b_X11_fewestTurns_0 (l : Launch) (S : CallFix P9 m9 C9 cX11_fewestTurns 9 s av.toArray gx_G RX11) (hr : meth.sig.returnType = (some .int)) (hlk : meth.locks = false) (hK : gx_K E s) (N : Nat) (σ : gI) (τ : gJ) (x1 : Int32) {r : Int32} {σ1 : gI} {τ1 : gJ} (h : B_X11_fewestTurns_0 N σ τ x1 = some (r, σ1, τ1)) {H : Heap} {locs : List Loc} {ls : Array Slot} (hw : gx_W gx_tb gx_tb.length E s σ τ H locs) (hl : lv_has ls 9 [(0, .ref (E.2.2 + 0)), (1, .int x1)]) : W P9 l e9 (gx_rm 6) s m9 av.toArray below meth C9 H locs 0 0 (gq_Qi below av s E r σ1 τ1) (F0 m9 0 ls []) := by
  have hx := S.1
  have hb := S.2.1
  unfold B_X11_fewestTurns_0 at h
  refine lv_aload_n hx hb dX11_fewestTurns_0 rfl (lv_at hl 0 rfl) ?_
  refine gx_getr (j := 160) S hK hw t_0 cl_12 15 (by decide) rfl mw_462 rfl dX11_fewestTurns_1 ?_
  obtain ⟨u_1, σ_1, τ_1, q_1, h⟩ := bd_some h
  refine gx_cVv (As := []) (rest := []) S hK gx_ok hw (c_X9_forgetSets l (E := E) N σ τ q_1) cw_X11_350 t_160 cl_10 ⟨Nat.le_of_ble_eq_true rfl, Nat.le_of_ble_eq_true rfl⟩ rfl hl.1 rfl (Nat.le_of_ble_eq_true rfl) ⟨Nat.le_of_ble_eq_true rfl, Nat.le_of_ble_eq_true rfl⟩ dX11_fewestTurns_4 (fun σ9 τ9 H locs hp hw => ?_)
  obtain ⟨rfl, rfl⟩ := hp
  refine lv_bipush (v := 13) hx hb dX11_fewestTurns_7 (by decide) ?_
  refine lv_istore_n (lv' := [(2, .int 13), (0, .ref (E.2.2 + 0)), (1, .int x1)]) hx hb dX11_fewestTurns_9 rfl hl (by decide) rfl (fun ls hl => ?_)
  refine lv_iconst (v := (-1)) hx hb dX11_fewestTurns_10 (by decide) ?_
  refine lv_istore_n (lv' := [(3, .int (-1)), (2, .int 13), (0, .ref (E.2.2 + 0)), (1, .int x1)]) hx hb dX11_fewestTurns_11 rfl hl (by decide) rfl (fun ls hl => ?_)
  refine lv_iconst (v := 0) hx hb dX11_fewestTurns_12 (by decide) ?_
  refine lv_istore (lv' := [(4, .int 0), (3, .int (-1)), (2, .int 13), (0, .ref (E.2.2 + 0)), (1, .int x1)]) hx hb dX11_fewestTurns_13 hl (by decide) rfl (fun ls hl => ?_)
  refine lv_iconst (v := 0) hx hb dX11_fewestTurns_15 (by decide) ?_
  refine lv_istore (lv' := [(5, .int 0), (4, .int 0), (3, .int (-1)), (2, .int 13), (0, .ref (E.2.2 + 0)), (1, .int x1)]) hx hb dX11_fewestTurns_16 hl (by decide) rfl (fun ls hl => ?_)
  refine lv_iconst (v := 0) hx hb dX11_fewestTurns_18 (by decide) ?_
  refine lv_istore (lv' := [(6, .int 0), (5, .int 0), (4, .int 0), (3, .int (-1)), (2, .int 13), (0, .ref (E.2.2 + 0)), (1, .int x1)]) hx hb dX11_fewestTurns_19 hl (by decide) rfl (fun ls hl => ?_)
  exact h_X11_fewestTurns_21 l S hr hlk hK N N σ_1 τ_1 x1 13 (-1) 0 0 0 _ _ _ h _ _ _ hw (lv_sub hl [5, 6, 4, 3, 2, 1, 0] rfl)
set_option maxHeartbeats 4000000 in
set_option maxRecDepth 100000 in
theorem c_X11_fewestTurns (l : Launch) {E : gE} (N : Nat) (σ : gI) (τ : gJ) (x1 : Int32) {r : Int32} {σ1 : gI} {τ1 : gJ} (h : B_X11_fewestTurns_0 N σ τ x1 = some (r, σ1, τ1)) : gx_Mi l yX11_fewestTurns cX11_fewestTurns 9 (some .int) 6 gx_tb E σ τ [.ref (E.2.2 + 0), .int x1] (gq_p r σ1 τ1) := by
  refine gx_bi (by decide +kernel) (Nat.le_of_ble_eq_true rfl) ?_
  intro P9 e9 s m9 below meth C9 S hr hlk hK hw ls hl
  have hl : lv_has ls 9 [(0, .ref (E.2.2 + 0)), (1, .int x1)] := hl
  exact b_X11_fewestTurns_0 l S hr hlk hK N σ τ x1 h hw hl
/-! X9_setFitting -/
def B_X9_setFitting_0 (N : Nat) (σ : gI) (τ : gJ) (x1 : Int32) (x2 : Int32) : Option (Unit × gI × gJ) := if x1 < 0 then (some ((), σ, τ)) else (if 4096 ≤ x1 then (some ((), σ, τ)) else (ck x1 4096 fun j_3 => cb x2 <| nm (up2 σ 162 j_3 x2) fun σ_5 => some ((), σ_5, τ)))
set_option maxHeartbeats 4000000 in
set_option maxRecDepth 100000 in
theorem b_X9_setFitting_0 (l : Launch) (S : CallFix P9 m9 C9 cX9_setFitting 3 s av.toArray gx_G RX9) (hr : meth.sig.returnType = none) (hlk : meth.locks = false) (hK : gx_K E s) (N : Nat) (σ : gI) (τ : gJ) (x1 : Int32) (x2 : Int32) {r : Unit} {σ1 : gI} {τ1 : gJ} (h : B_X9_setFitting_0 N σ τ x1 x2 = some (r, σ1, τ1)) {H : Heap} {locs : List Loc} {ls : Array Slot} (hw : gx_W gx_tb gx_tb.length E s σ τ H locs) (hl : lv_has ls 3 [(0, .ref (E.2.2 + 160)), (1, .int x1), (2, .int x2)]) : W P9 l e9 (gx_rm 0) s m9 av.toArray below meth C9 H locs 0 0 (gq_Qv below av s E σ1 τ1) (F0 m9 0 ls []) := by
  have hx := S.1
  have hb := S.2.1
  unfold B_X9_setFitting_0 at h
  refine lv_iload_n hx hb dX9_setFitting_0 rfl (lv_at hl 1 rfl) ?_
  refine lv_if_lt (tgt := 18) hx hb dX9_setFitting_1 (by decide) (fun c_1 => ?_) (fun c_1 => ?_)
  · rw [if_pos c_1] at h
    obtain ⟨-, rfl, rfl⟩ := sm_inj h
    exact gx_rv (post := gq_v σ τ) S hr hlk hw dX9_setFitting_18 ⟨rfl, rfl⟩
  · rw [if_neg c_1] at h
    refine lv_iload_n hx hb dX9_setFitting_4 rfl (lv_at hl 1 rfl) ?_
    refine lv_sipush (v := 4096) hx hb dX9_setFitting_5 (by decide) ?_
    refine lv_icmp_ge (tgt := 18) hx hb dX9_setFitting_8 (by decide) (fun c_2 => ?_) (fun c_2 => ?_)
    · rw [if_pos c_2] at h
      obtain ⟨-, rfl, rfl⟩ := sm_inj h
      exact gx_rv (post := gq_v σ τ) S hr hlk hw dX9_setFitting_18 ⟨rfl, rfl⟩
    · rw [if_neg c_2] at h
      refine lv_aload_n hx hb dX9_setFitting_11 rfl (lv_at hl 0 rfl) ?_
      refine gx_getr (j := 162) S hK hw t_160 cl_10 3 (by decide) rfl mw_419 rfl dX9_setFitting_12 ?_
      refine lv_iload_n hx hb dX9_setFitting_15 rfl (lv_at hl 1 rfl) ?_
      refine lv_iload_n hx hb dX9_setFitting_16 rfl (lv_at hl 2 rfl) ?_
      obtain ⟨j_3, hj_3, hi_3, h⟩ := ck_some h
      obtain ⟨hq_4, h⟩ := cb_some h
      refine gx_zast S hK gx_ok hw t_162 j_3 hj_3 hi_3 (cb_vp hq_4) dX9_setFitting_17 (fun H locs hw => ?_)
      obtain ⟨σ_5, e_5, h⟩ := nm_some h
      rw [← e_5] at hw
      obtain ⟨-, rfl, rfl⟩ := sm_inj h
      exact gx_rv (post := gq_v σ_5 τ) S hr hlk hw dX9_setFitting_18 ⟨rfl, rfl⟩
set_option maxHeartbeats 4000000 in
set_option maxRecDepth 100000 in
theorem c_X9_setFitting (l : Launch) {E : gE} (N : Nat) (σ : gI) (τ : gJ) (x1 : Int32) (x2 : Int32) {r : Unit} {σ1 : gI} {τ1 : gJ} (h : B_X9_setFitting_0 N σ τ x1 x2 = some (r, σ1, τ1)) : gx_Mv l yX9_setFitting cX9_setFitting 3 none 0 gx_tb E σ τ [.ref (E.2.2 + 160), .int x1, .int x2] (gq_v σ1 τ1) := by
  refine gx_bv (by decide +kernel) (Nat.le_of_ble_eq_true rfl) ?_
  intro P9 e9 s m9 below meth C9 S hr hlk hK hw ls hl
  have hl : lv_has ls 3 [(0, .ref (E.2.2 + 160)), (1, .int x1), (2, .int x2)] := hl
  exact b_X9_setFitting_0 l S hr hlk hK N σ τ x1 x2 h hw hl
/-! X9_fitAll -/
def C_X9_fitAll_4 (N : Nat) (rec_4 : gI → gJ → Int32 → Int32 → Option (Unit × gI × gJ)) (σ : gI) (τ : gJ) (x1 : Int32) (x2 : Int32) : Option (Unit × gI × gJ) := if σ 3 8 ≤ x2 then (some ((), σ, τ)) else (bd (B_X9_setFitting_0 N σ τ x1 1) fun _ σ_2 τ_2 => bd (B_X8_nextSet_0 N σ_2 τ_2 x1) fun r_3 σ_3 τ_3 => nm (x2 + 1) fun v_4 => rec_4 σ_3 τ_3 r_3 v_4)
def H_X9_fitAll_4 (N : Nat) : Nat → gI → gJ → Int32 → Int32 → Option (Unit × gI × gJ) := itn (fun rec_4 => C_X9_fitAll_4 N rec_4) (fun _ _ _ _ => none)
def B_X9_fitAll_0 (N : Nat) (σ : gI) (τ : gJ) : Option (Unit × gI × gJ) := H_X9_fitAll_4 N N σ τ 0 0
set_option maxHeartbeats 4000000 in
set_option maxRecDepth 100000 in
theorem k_X9_fitAll_4 (l : Launch) (S : CallFix P9 m9 C9 cX9_fitAll 3 s av.toArray gx_G RX9) (hr : meth.sig.returnType = none) (hlk : meth.locks = false) (hK : gx_K E s) (N : Nat) (rec_4 : gI → gJ → Int32 → Int32 → Option (Unit × gI × gJ)) (hrec_4 : ∀ (σ : gI) (τ : gJ) (x1 : Int32) (x2 : Int32) (r : Unit) (σ1 : gI) (τ1 : gJ) (H : Heap) (locs : List Loc) (ls : Array Slot), rec_4 σ τ x1 x2 = some (r, σ1, τ1) → gx_W gx_tb gx_tb.length E s σ τ H locs → lv_has ls 3 [(0, .ref (E.2.2 + 160)), (1, .int x1), (2, .int x2)] → W P9 l e9 (gx_rm 1) s m9 av.toArray below meth C9 H locs 0 0 (gq_Qv below av s E σ1 τ1) (F0 m9 4 ls [])) (σ : gI) (τ : gJ) (x1 : Int32) (x2 : Int32) {r : Unit} {σ1 : gI} {τ1 : gJ} (h : C_X9_fitAll_4 N rec_4 σ τ x1 x2 = some (r, σ1, τ1)) {H : Heap} {locs : List Loc} {ls : Array Slot} (hw : gx_W gx_tb gx_tb.length E s σ τ H locs) (hl : lv_has ls 3 [(0, .ref (E.2.2 + 160)), (1, .int x1), (2, .int x2)]) : W P9 l e9 (gx_rm 1) s m9 av.toArray below meth C9 H locs 0 0 (gq_Qv below av s E σ1 τ1) (F0 m9 4 ls []) := by
  have hx := S.1
  have hb := S.2.1
  unfold C_X9_fitAll_4 at h
  refine lv_iload_n hx hb dX9_fitAll_4 rfl (lv_at hl 2 rfl) ?_
  refine lv_aload_n hx hb dX9_fitAll_5 rfl (lv_at hl 0 rfl) ?_
  refine gx_getr (j := 3) S hK hw t_160 cl_10 0 (by decide) rfl mw_416 rfl dX9_fitAll_6 ?_
  refine gx_get S hK hw t_3 cl_9 8 (by decide) rfl mw_160 rfl dX9_fitAll_9 ?_
  refine lv_icmp_ge (tgt := 36) hx hb dX9_fitAll_12 (by decide) (fun c_1 => ?_) (fun c_1 => ?_)
  · rw [if_pos c_1] at h
    obtain ⟨-, rfl, rfl⟩ := sm_inj h
    exact gx_rv (post := gq_v σ τ) S hr hlk hw dX9_fitAll_36 ⟨rfl, rfl⟩
  · rw [if_neg c_1] at h
    refine lv_aload_n hx hb dX9_fitAll_15 rfl (lv_at hl 0 rfl) ?_
    refine lv_iload_n hx hb dX9_fitAll_16 rfl (lv_at hl 1 rfl) ?_
    refine lv_iconst (v := 1) hx hb dX9_fitAll_17 (by decide) ?_
    obtain ⟨u_2, σ_2, τ_2, q_2, h⟩ := bd_some h
    refine gx_cVv (As := [.int x1, .int 1]) (rest := []) S hK gx_ok hw (c_X9_setFitting l (E := E) N σ τ x1 1 q_2) cw_X9_142 t_160 cl_10 ⟨Nat.le_of_ble_eq_true rfl, Nat.le_of_ble_eq_true rfl⟩ rfl hl.1 rfl (Nat.le_of_ble_eq_true rfl) ⟨Nat.le_of_ble_eq_true rfl, Nat.le_of_ble_eq_true rfl⟩ dX9_fitAll_18 (fun σ9 τ9 H locs hp hw => ?_)
    obtain ⟨rfl, rfl⟩ := hp
    refine lv_aload_n hx hb dX9_fitAll_21 rfl (lv_at hl 0 rfl) ?_
    refine gx_getr (j := 3) S hK hw t_160 cl_10 0 (by decide) rfl mw_416 rfl dX9_fitAll_22 ?_
    refine lv_iload_n hx hb dX9_fitAll_25 rfl (lv_at hl 1 rfl) ?_
    obtain ⟨r_3, σ_3, τ_3, q_3, h⟩ := bd_some h
    refine gx_cVi (As := [.int x1]) (rest := []) S hK gx_ok hw (c_X8_nextSet l (E := E) N σ_2 τ_2 x1 q_3) cw_X9_125 t_3 cl_9 ⟨Nat.le_of_ble_eq_true rfl, Nat.le_of_ble_eq_true rfl⟩ rfl hl.1 rfl (Nat.le_of_ble_eq_true rfl) ⟨Nat.le_of_ble_eq_true rfl, Nat.le_of_ble_eq_true rfl⟩ dX9_fitAll_26 (fun r9 σ9 τ9 H locs hp hw => ?_)
    obtain ⟨rfl, rfl, rfl⟩ := hp
    refine lv_istore_n (lv' := [(1, .int r_3), (0, .ref (E.2.2 + 160)), (2, .int x2)]) hx hb dX9_fitAll_29 rfl hl (by decide) rfl (fun ls hl => ?_)
    refine lv_iinc (v := x2 + 1) (lv' := [(2, .int (x2 + 1)), (1, .int r_3), (0, .ref (E.2.2 + 160))]) hx hb dX9_fitAll_30 hl (k := 2) rfl rfl (by decide) rfl (fun ls hl => ?_)
    obtain ⟨v_4, e_4, h⟩ := nm_some h
    have hl : lv_has ls 3 [(2, .int v_4), (1, .int r_3), (0, .ref (E.2.2 + 160))] := by rw [e_4]; exact hl
    refine lv_goto (tgt := 4) hx hb dX9_fitAll_33 (by decide) ?_
    exact hrec_4 σ_3 τ_3 r_3 v_4 _ _ _ _ _ _ h hw (lv_sub hl [2, 1, 0] rfl)
set_option maxHeartbeats 4000000 in
set_option maxRecDepth 100000 in
theorem h_X9_fitAll_4 (l : Launch) (S : CallFix P9 m9 C9 cX9_fitAll 3 s av.toArray gx_G RX9) (hr : meth.sig.returnType = none) (hlk : meth.locks = false) (hK : gx_K E s) (N : Nat) : ∀ (n : Nat) (σ : gI) (τ : gJ) (x1 : Int32) (x2 : Int32) (r : Unit) (σ1 : gI) (τ1 : gJ), H_X9_fitAll_4 N n σ τ x1 x2 = some (r, σ1, τ1) → ∀ (H : Heap) (locs : List Loc) (ls : Array Slot), gx_W gx_tb gx_tb.length E s σ τ H locs → lv_has ls 3 [(0, .ref (E.2.2 + 160)), (1, .int x1), (2, .int x2)] → W P9 l e9 (gx_rm 1) s m9 av.toArray below meth C9 H locs 0 0 (gq_Qv below av s E σ1 τ1) (F0 m9 4 ls []) := by
  intro n
  induction n with
  | zero => intro σ τ x1 x2 r σ1 τ1 h; cases h
  | succ n ih =>
    intro σ τ x1 x2 r σ1 τ1 h H locs ls hw hl
    exact k_X9_fitAll_4 l S hr hlk hK N (H_X9_fitAll_4 N n) (fun σ τ x1 x2 r σ1 τ1 H locs ls h hw hl => ih σ τ x1 x2 r σ1 τ1 h H locs ls hw hl) σ τ x1 x2 h hw hl
set_option maxHeartbeats 4000000 in
set_option maxRecDepth 100000 in
theorem b_X9_fitAll_0 (l : Launch) (S : CallFix P9 m9 C9 cX9_fitAll 3 s av.toArray gx_G RX9) (hr : meth.sig.returnType = none) (hlk : meth.locks = false) (hK : gx_K E s) (N : Nat) (σ : gI) (τ : gJ) {r : Unit} {σ1 : gI} {τ1 : gJ} (h : B_X9_fitAll_0 N σ τ = some (r, σ1, τ1)) {H : Heap} {locs : List Loc} {ls : Array Slot} (hw : gx_W gx_tb gx_tb.length E s σ τ H locs) (hl : lv_has ls 3 [(0, .ref (E.2.2 + 160))]) : W P9 l e9 (gx_rm 1) s m9 av.toArray below meth C9 H locs 0 0 (gq_Qv below av s E σ1 τ1) (F0 m9 0 ls []) := by
  have hx := S.1
  have hb := S.2.1
  unfold B_X9_fitAll_0 at h
  refine lv_iconst (v := 0) hx hb dX9_fitAll_0 (by decide) ?_
  refine lv_istore_n (lv' := [(1, .int 0), (0, .ref (E.2.2 + 160))]) hx hb dX9_fitAll_1 rfl hl (by decide) rfl (fun ls hl => ?_)
  refine lv_iconst (v := 0) hx hb dX9_fitAll_2 (by decide) ?_
  refine lv_istore_n (lv' := [(2, .int 0), (1, .int 0), (0, .ref (E.2.2 + 160))]) hx hb dX9_fitAll_3 rfl hl (by decide) rfl (fun ls hl => ?_)
  exact h_X9_fitAll_4 l S hr hlk hK N N σ τ 0 0 _ _ _ h _ _ _ hw (lv_sub hl [2, 1, 0] rfl)
set_option maxHeartbeats 4000000 in
set_option maxRecDepth 100000 in
theorem c_X9_fitAll (l : Launch) {E : gE} (N : Nat) (σ : gI) (τ : gJ) {r : Unit} {σ1 : gI} {τ1 : gJ} (h : B_X9_fitAll_0 N σ τ = some (r, σ1, τ1)) : gx_Mv l yX9_fitAll cX9_fitAll 3 none 1 gx_tb E σ τ [.ref (E.2.2 + 160)] (gq_v σ1 τ1) := by
  refine gx_bv (by decide +kernel) (Nat.le_of_ble_eq_true rfl) ?_
  intro P9 e9 s m9 below meth C9 S hr hlk hK hw ls hl
  have hl : lv_has ls 3 [(0, .ref (E.2.2 + 160))] := hl
  exact b_X9_fitAll_0 l S hr hlk hK N σ τ h hw hl
/-! X9_fits -/
def B_X9_fits_0 (N : Nat) (σ : gI) (τ : gJ) (x1 : Int32) : Option (Int32 × gI × gJ) := if x1 < 0 then (some (0, σ, τ)) else (if 4096 ≤ x1 then (some (0, σ, τ)) else (ck x1 4096 fun j_3 => if σ 162 j_3 = 0 then (some (0, σ, τ)) else (some (1, σ, τ))))
set_option maxHeartbeats 4000000 in
set_option maxRecDepth 100000 in
theorem b_X9_fits_0 (l : Launch) (S : CallFix P9 m9 C9 cX9_fits 2 s av.toArray gx_G RX9) (hr : meth.sig.returnType = (some .boolean)) (hlk : meth.locks = false) (hK : gx_K E s) (N : Nat) (σ : gI) (τ : gJ) (x1 : Int32) {r : Int32} {σ1 : gI} {τ1 : gJ} (h : B_X9_fits_0 N σ τ x1 = some (r, σ1, τ1)) {H : Heap} {locs : List Loc} {ls : Array Slot} (hw : gx_W gx_tb gx_tb.length E s σ τ H locs) (hl : lv_has ls 2 [(0, .ref (E.2.2 + 160)), (1, .int x1)]) : W P9 l e9 (gx_rm 0) s m9 av.toArray below meth C9 H locs 0 0 (gq_Qi below av s E r σ1 τ1) (F0 m9 0 ls []) := by
  have hx := S.1
  have hb := S.2.1
  unfold B_X9_fits_0 at h
  refine lv_iload_n hx hb dX9_fits_0 rfl (lv_at hl 1 rfl) ?_
  refine lv_if_lt (tgt := 24) hx hb dX9_fits_1 (by decide) (fun c_1 => ?_) (fun c_1 => ?_)
  · rw [if_pos c_1] at h
    refine lv_iconst (v := 0) hx hb dX9_fits_24 (by decide) ?_
    obtain ⟨rfl, rfl, rfl⟩ := sm_inj h
    exact gx_ri (post := gq_p 0 σ τ) (v := 0) S hr hlk hw rfl dX9_fits_25 ⟨rfl, rfl, rfl⟩
  · rw [if_neg c_1] at h
    refine lv_iload_n hx hb dX9_fits_4 rfl (lv_at hl 1 rfl) ?_
    refine lv_sipush (v := 4096) hx hb dX9_fits_5 (by decide) ?_
    refine lv_icmp_ge (tgt := 24) hx hb dX9_fits_8 (by decide) (fun c_2 => ?_) (fun c_2 => ?_)
    · rw [if_pos c_2] at h
      refine lv_iconst (v := 0) hx hb dX9_fits_24 (by decide) ?_
      obtain ⟨rfl, rfl, rfl⟩ := sm_inj h
      exact gx_ri (post := gq_p 0 σ τ) (v := 0) S hr hlk hw rfl dX9_fits_25 ⟨rfl, rfl, rfl⟩
    · rw [if_neg c_2] at h
      refine lv_aload_n hx hb dX9_fits_11 rfl (lv_at hl 0 rfl) ?_
      refine gx_getr (j := 162) S hK hw t_160 cl_10 3 (by decide) rfl mw_419 rfl dX9_fits_12 ?_
      refine lv_iload_n hx hb dX9_fits_15 rfl (lv_at hl 1 rfl) ?_
      obtain ⟨j_3, hj_3, hi_3, h⟩ := ck_some h
      refine gx_zald S hK hw t_162 j_3 hj_3 hi_3 dX9_fits_16 ?_
      refine lv_if_eq (tgt := 24) hx hb dX9_fits_17 (by decide) (fun c_4 => ?_) (fun c_4 => ?_)
      · rw [if_pos c_4] at h
        refine lv_iconst (v := 0) hx hb dX9_fits_24 (by decide) ?_
        obtain ⟨rfl, rfl, rfl⟩ := sm_inj h
        exact gx_ri (post := gq_p 0 σ τ) (v := 0) S hr hlk hw rfl dX9_fits_25 ⟨rfl, rfl, rfl⟩
      · rw [if_neg c_4] at h
        refine lv_iconst (v := 1) hx hb dX9_fits_20 (by decide) ?_
        refine lv_goto (tgt := 25) hx hb dX9_fits_21 (by decide) ?_
        obtain ⟨rfl, rfl, rfl⟩ := sm_inj h
        exact gx_ri (post := gq_p 1 σ τ) (v := 1) S hr hlk hw rfl dX9_fits_25 ⟨rfl, rfl, rfl⟩
set_option maxHeartbeats 4000000 in
set_option maxRecDepth 100000 in
theorem c_X9_fits (l : Launch) {E : gE} (N : Nat) (σ : gI) (τ : gJ) (x1 : Int32) {r : Int32} {σ1 : gI} {τ1 : gJ} (h : B_X9_fits_0 N σ τ x1 = some (r, σ1, τ1)) : gx_Mi l yX9_fits cX9_fits 2 (some .boolean) 0 gx_tb E σ τ [.ref (E.2.2 + 160), .int x1] (gq_p r σ1 τ1) := by
  refine gx_bi (by decide +kernel) (Nat.le_of_ble_eq_true rfl) ?_
  intro P9 e9 s m9 below meth C9 S hr hlk hK hw ls hl
  have hl : lv_has ls 2 [(0, .ref (E.2.2 + 160)), (1, .int x1)] := hl
  exact b_X9_fits_0 l S hr hlk hK N σ τ x1 h hw hl
/-! X11_kitchenOf -/
def B_X11_kitchenOf_0 (N : Nat) (σ : gI) (τ : gJ) (x0 : Int32) : Option (Int32 × gI × gJ) := if x0 < 0 then (some ((-1), σ, τ)) else (some (x0 - x0 / 16 * 16, σ, τ))
set_option maxHeartbeats 4000000 in
set_option maxRecDepth 100000 in
theorem b_X11_kitchenOf_0 (l : Launch) (S : CallFix P9 m9 C9 cX11_kitchenOf 1 s av.toArray gx_G RX11) (hr : meth.sig.returnType = (some .int)) (hlk : meth.locks = false) (hK : gx_K E s) (N : Nat) (σ : gI) (τ : gJ) (x0 : Int32) {r : Int32} {σ1 : gI} {τ1 : gJ} (h : B_X11_kitchenOf_0 N σ τ x0 = some (r, σ1, τ1)) {H : Heap} {locs : List Loc} {ls : Array Slot} (hw : gx_W gx_tb gx_tb.length E s σ τ H locs) (hl : lv_has ls 1 [(0, .int x0)]) : W P9 l e9 (gx_rm 0) s m9 av.toArray below meth C9 H locs 0 0 (gq_Qi below av s E r σ1 τ1) (F0 m9 0 ls []) := by
  have hx := S.1
  have hb := S.2.1
  unfold B_X11_kitchenOf_0 at h
  refine lv_iload_n hx hb dX11_kitchenOf_0 rfl (lv_at hl 0 rfl) ?_
  refine lv_if_lt (tgt := 11) hx hb dX11_kitchenOf_1 (by decide) (fun c_1 => ?_) (fun c_1 => ?_)
  · rw [if_pos c_1] at h
    refine lv_iconst (v := (-1)) hx hb dX11_kitchenOf_11 (by decide) ?_
    obtain ⟨rfl, rfl, rfl⟩ := sm_inj h
    exact gx_ri (post := gq_p (-1) σ τ) (v := (-1)) S hr hlk hw rfl dX11_kitchenOf_12 ⟨rfl, rfl, rfl⟩
  · rw [if_neg c_1] at h
    refine lv_iload_n hx hb dX11_kitchenOf_4 rfl (lv_at hl 0 rfl) ?_
    refine lv_bipush (v := 16) hx hb dX11_kitchenOf_5 (by decide) ?_
    refine lv_irem hx hb dX11_kitchenOf_7 (by decide) ?_
    refine lv_goto (tgt := 12) hx hb dX11_kitchenOf_8 (by decide) ?_
    obtain ⟨rfl, rfl, rfl⟩ := sm_inj h
    exact gx_ri (post := gq_p (x0 - x0 / 16 * 16) σ τ) (v := x0 - x0 / 16 * 16) S hr hlk hw rfl dX11_kitchenOf_12 ⟨rfl, rfl, rfl⟩
set_option maxHeartbeats 4000000 in
set_option maxRecDepth 100000 in
theorem c_X11_kitchenOf (l : Launch) {E : gE} (N : Nat) (σ : gI) (τ : gJ) (x0 : Int32) {r : Int32} {σ1 : gI} {τ1 : gJ} (h : B_X11_kitchenOf_0 N σ τ x0 = some (r, σ1, τ1)) : gx_Mi l yX11_kitchenOf cX11_kitchenOf 1 (some .int) 0 gx_tb E σ τ [.int x0] (gq_p r σ1 τ1) := by
  refine gx_bi (by decide +kernel) (Nat.le_of_ble_eq_true rfl) ?_
  intro P9 e9 s m9 below meth C9 S hr hlk hK hw ls hl
  have hl : lv_has ls 1 [(0, .int x0)] := hl
  exact b_X11_kitchenOf_0 l S hr hlk hK N σ τ x0 h hw hl
/-! X11_findFits -/
def C_X11_findFits_68 (N : Nat) (rec_9 : gI → gJ → Int32 → Option (Unit × gI × gJ)) (rec_68 : gI → gJ → Int32 → Int32 → Int32 → Int32 → Option (Unit × gI × gJ)) (σ : gI) (τ : gJ) (x1 : Int32) (x2 : Int32) (x3 : Int32) (x4 : Int32) : Option (Unit × gI × gJ) := if σ 3 8 ≤ x4 then (nm (x1 + 1) fun v_2 => rec_9 σ τ v_2) else (bd (B_X9_fits_0 N σ τ x3) fun r_3 σ_3 τ_3 => if r_3 = 0 then (bd (B_X8_nextSet_0 N σ_3 τ_3 x3) fun r_5 σ_5 τ_5 => nm (x4 + 1) fun v_6 => rec_68 σ_5 τ_5 x1 x2 r_5 v_6) else (bd (B_X9_outcome_0 N σ_3 τ_3 x3) fun r_7 σ_7 τ_7 => bd (B_X11_kitchenOf_0 N σ_7 τ_7 r_7) fun r_8 σ_8 τ_8 => if r_8 = x2 then (bd (B_X8_nextSet_0 N σ_8 τ_8 x3) fun r_10 σ_10 τ_10 => nm (x4 + 1) fun v_11 => rec_68 σ_10 τ_10 x1 x2 r_10 v_11) else (bd (B_X9_setFitting_0 N σ_8 τ_8 x3 0) fun _ σ_12 τ_12 => bd (B_X8_nextSet_0 N σ_12 τ_12 x3) fun r_13 σ_13 τ_13 => nm (x4 + 1) fun v_14 => rec_68 σ_13 τ_13 x1 x2 r_13 v_14)))
def H_X11_findFits_68 (N : Nat) (rec_9 : gI → gJ → Int32 → Option (Unit × gI × gJ)) : Nat → gI → gJ → Int32 → Int32 → Int32 → Int32 → Option (Unit × gI × gJ) := itn (fun rec_68 => C_X11_findFits_68 N rec_9 rec_68) (fun _ _ _ _ _ _ => none)
def C_X11_findFits_9 (N : Nat) (rec_9 : gI → gJ → Int32 → Option (Unit × gI × gJ)) (σ : gI) (τ : gJ) (x1 : Int32) : Option (Unit × gI × gJ) := if σ 152 3 ≤ x1 then (some ((), σ, τ)) else (bd (B_X0_endOf_0 N σ τ x1) fun r_2 σ_2 τ_2 => bd (B_X0_spotOf_0 N σ_2 τ_2 x1) fun r_3 σ_3 τ_3 => bd (B_X0_minuteOf_0 N σ_3 τ_3 x1) fun r_4 σ_4 τ_4 => bd (B_X9_thinkOf_0 N σ_4 τ_4 r_3 99 0 0 r_4) fun _ σ_5 τ_5 => bd (B_X9_forgetSets_0 N σ_5 τ_5) fun _ σ_6 τ_6 => H_X11_findFits_68 N rec_9 N σ_6 τ_6 x1 r_2 0 0)
def H_X11_findFits_9 (N : Nat) : Nat → gI → gJ → Int32 → Option (Unit × gI × gJ) := itn (fun rec_9 => C_X11_findFits_9 N rec_9) (fun _ _ _ => none)
def B_X11_findFits_0 (N : Nat) (σ : gI) (τ : gJ) : Option (Unit × gI × gJ) := bd (B_X9_fitAll_0 N σ τ) fun _ σ_1 τ_1 => H_X11_findFits_9 N N σ_1 τ_1 0
set_option maxHeartbeats 4000000 in
set_option maxRecDepth 100000 in
theorem k_X11_findFits_68 (l : Launch) (S : CallFix P9 m9 C9 cX11_findFits 5 s av.toArray gx_G RX11) (hr : meth.sig.returnType = none) (hlk : meth.locks = false) (hK : gx_K E s) (N : Nat) (rec_9 : gI → gJ → Int32 → Option (Unit × gI × gJ)) (hrec_9 : ∀ (σ : gI) (τ : gJ) (x1 : Int32) (r : Unit) (σ1 : gI) (τ1 : gJ) (H : Heap) (locs : List Loc) (ls : Array Slot), rec_9 σ τ x1 = some (r, σ1, τ1) → gx_W gx_tb gx_tb.length E s σ τ H locs → lv_has ls 5 [(0, .ref (E.2.2 + 0)), (1, .int x1)] → W P9 l e9 (gx_rm 6) s m9 av.toArray below meth C9 H locs 0 0 (gq_Qv below av s E σ1 τ1) (F0 m9 9 ls [])) (rec_68 : gI → gJ → Int32 → Int32 → Int32 → Int32 → Option (Unit × gI × gJ)) (hrec_68 : ∀ (σ : gI) (τ : gJ) (x1 : Int32) (x2 : Int32) (x3 : Int32) (x4 : Int32) (r : Unit) (σ1 : gI) (τ1 : gJ) (H : Heap) (locs : List Loc) (ls : Array Slot), rec_68 σ τ x1 x2 x3 x4 = some (r, σ1, τ1) → gx_W gx_tb gx_tb.length E s σ τ H locs → lv_has ls 5 [(0, .ref (E.2.2 + 0)), (1, .int x1), (2, .int x2), (3, .int x3), (4, .int x4)] → W P9 l e9 (gx_rm 6) s m9 av.toArray below meth C9 H locs 0 0 (gq_Qv below av s E σ1 τ1) (F0 m9 68 ls [])) (σ : gI) (τ : gJ) (x1 : Int32) (x2 : Int32) (x3 : Int32) (x4 : Int32) {r : Unit} {σ1 : gI} {τ1 : gJ} (h : C_X11_findFits_68 N rec_9 rec_68 σ τ x1 x2 x3 x4 = some (r, σ1, τ1)) {H : Heap} {locs : List Loc} {ls : Array Slot} (hw : gx_W gx_tb gx_tb.length E s σ τ H locs) (hl : lv_has ls 5 [(0, .ref (E.2.2 + 0)), (1, .int x1), (2, .int x2), (3, .int x3), (4, .int x4)]) : W P9 l e9 (gx_rm 6) s m9 av.toArray below meth C9 H locs 0 0 (gq_Qv below av s E σ1 τ1) (F0 m9 68 ls []) := by
  have hx := S.1
  have hb := S.2.1
  unfold C_X11_findFits_68 at h
  refine lv_iload hx hb dX11_findFits_68 (lv_at hl 4 rfl) ?_
  refine lv_aload_n hx hb dX11_findFits_70 rfl (lv_at hl 0 rfl) ?_
  refine gx_getr (j := 3) S hK hw t_0 cl_12 1 (by decide) rfl mw_448 rfl dX11_findFits_71 ?_
  refine gx_get S hK hw t_3 cl_9 8 (by decide) rfl mw_161 rfl dX11_findFits_74 ?_
  refine lv_icmp_ge (tgt := 130) hx hb dX11_findFits_77 (by decide) (fun c_1 => ?_) (fun c_1 => ?_)
  · rw [if_pos c_1] at h
    refine lv_iinc (v := x1 + 1) (lv' := [(1, .int (x1 + 1)), (0, .ref (E.2.2 + 0)), (2, .int x2), (3, .int x3), (4, .int x4)]) hx hb dX11_findFits_130 hl (k := 1) rfl rfl (by decide) rfl (fun ls hl => ?_)
    obtain ⟨v_2, e_2, h⟩ := nm_some h
    have hl : lv_has ls 5 [(1, .int v_2), (0, .ref (E.2.2 + 0)), (2, .int x2), (3, .int x3), (4, .int x4)] := by rw [e_2]; exact hl
    refine lv_goto (tgt := 9) hx hb dX11_findFits_133 (by decide) ?_
    exact hrec_9 σ τ v_2 _ _ _ _ _ _ h hw (lv_sub hl [1, 0] rfl)
  · rw [if_neg c_1] at h
    refine lv_aload_n hx hb dX11_findFits_80 rfl (lv_at hl 0 rfl) ?_
    refine gx_getr (j := 160) S hK hw t_0 cl_12 15 (by decide) rfl mw_462 rfl dX11_findFits_81 ?_
    refine lv_iload_n hx hb dX11_findFits_84 rfl (lv_at hl 3 rfl) ?_
    obtain ⟨r_3, σ_3, τ_3, q_3, h⟩ := bd_some h
    refine gx_cVi (As := [.int x3]) (rest := []) S hK gx_ok hw (c_X9_fits l (E := E) N σ τ x3 q_3) cw_X11_378 t_160 cl_10 ⟨Nat.le_of_ble_eq_true rfl, Nat.le_of_ble_eq_true rfl⟩ rfl hl.1 rfl (Nat.le_of_ble_eq_true rfl) ⟨Nat.le_of_ble_eq_true rfl, Nat.le_of_ble_eq_true rfl⟩ dX11_findFits_85 (fun r9 σ9 τ9 H locs hp hw => ?_)
    obtain ⟨rfl, rfl, rfl⟩ := hp
    refine lv_if_eq (tgt := 115) hx hb dX11_findFits_88 (by decide) (fun c_4 => ?_) (fun c_4 => ?_)
    · rw [if_pos c_4] at h
      refine lv_aload_n hx hb dX11_findFits_115 rfl (lv_at hl 0 rfl) ?_
      refine gx_getr (j := 3) S hK hw t_0 cl_12 1 (by decide) rfl mw_448 rfl dX11_findFits_116 ?_
      refine lv_iload_n hx hb dX11_findFits_119 rfl (lv_at hl 3 rfl) ?_
      obtain ⟨r_5, σ_5, τ_5, q_5, h⟩ := bd_some h
      refine gx_cVi (As := [.int x3]) (rest := []) S hK gx_ok hw (c_X8_nextSet l (E := E) N σ_3 τ_3 x3 q_5) cw_X11_359 t_3 cl_9 ⟨Nat.le_of_ble_eq_true rfl, Nat.le_of_ble_eq_true rfl⟩ rfl hl.1 rfl (Nat.le_of_ble_eq_true rfl) ⟨Nat.le_of_ble_eq_true rfl, Nat.le_of_ble_eq_true rfl⟩ dX11_findFits_120 (fun r9 σ9 τ9 H locs hp hw => ?_)
      obtain ⟨rfl, rfl, rfl⟩ := hp
      refine lv_istore_n (lv' := [(3, .int r_5), (0, .ref (E.2.2 + 0)), (1, .int x1), (2, .int x2), (4, .int x4)]) hx hb dX11_findFits_123 rfl hl (by decide) rfl (fun ls hl => ?_)
      refine lv_iinc (v := x4 + 1) (lv' := [(4, .int (x4 + 1)), (3, .int r_5), (0, .ref (E.2.2 + 0)), (1, .int x1), (2, .int x2)]) hx hb dX11_findFits_124 hl (k := 4) rfl rfl (by decide) rfl (fun ls hl => ?_)
      obtain ⟨v_6, e_6, h⟩ := nm_some h
      have hl : lv_has ls 5 [(4, .int v_6), (3, .int r_5), (0, .ref (E.2.2 + 0)), (1, .int x1), (2, .int x2)] := by rw [e_6]; exact hl
      refine lv_goto (tgt := 68) hx hb dX11_findFits_127 (by decide) ?_
      exact hrec_68 σ_5 τ_5 x1 x2 r_5 v_6 _ _ _ _ _ _ h hw (lv_sub hl [2, 3, 4, 1, 0] rfl)
    · rw [if_neg c_4] at h
      refine lv_aload_n hx hb dX11_findFits_91 rfl (lv_at hl 0 rfl) ?_
      refine gx_getr (j := 160) S hK hw t_0 cl_12 15 (by decide) rfl mw_462 rfl dX11_findFits_92 ?_
      refine lv_iload_n hx hb dX11_findFits_95 rfl (lv_at hl 3 rfl) ?_
      obtain ⟨r_7, σ_7, τ_7, q_7, h⟩ := bd_some h
      refine gx_cVi (As := [.int x3]) (rest := []) S hK gx_ok hw (c_X9_outcome l (E := E) N σ_3 τ_3 x3 q_7) cw_X11_356 t_160 cl_10 ⟨Nat.le_of_ble_eq_true rfl, Nat.le_of_ble_eq_true rfl⟩ rfl hl.1 rfl (Nat.le_of_ble_eq_true rfl) ⟨Nat.le_of_ble_eq_true rfl, Nat.le_of_ble_eq_true rfl⟩ dX11_findFits_96 (fun r9 σ9 τ9 H locs hp hw => ?_)
      obtain ⟨rfl, rfl, rfl⟩ := hp
      obtain ⟨r_8, σ_8, τ_8, q_8, h⟩ := bd_some h
      refine gx_cSi (As := [.int r_7]) (rest := []) S hK gx_ok hw (c_X11_kitchenOf l (E := E) N σ_7 τ_7 r_7 q_8) cw_X11_394 ⟨Nat.le_of_ble_eq_true rfl, Nat.le_of_ble_eq_true rfl⟩ rfl hl.1 rfl (Nat.le_of_ble_eq_true rfl) ⟨Nat.le_of_ble_eq_true rfl, Nat.le_of_ble_eq_true rfl⟩ dX11_findFits_99 (fun r9 σ9 τ9 H locs hp hw => ?_)
      obtain ⟨rfl, rfl, rfl⟩ := hp
      refine lv_iload_n hx hb dX11_findFits_102 rfl (lv_at hl 2 rfl) ?_
      refine lv_icmp_eq (tgt := 115) hx hb dX11_findFits_103 (by decide) (fun c_9 => ?_) (fun c_9 => ?_)
      · rw [if_pos c_9] at h
        refine lv_aload_n hx hb dX11_findFits_115 rfl (lv_at hl 0 rfl) ?_
        refine gx_getr (j := 3) S hK hw t_0 cl_12 1 (by decide) rfl mw_448 rfl dX11_findFits_116 ?_
        refine lv_iload_n hx hb dX11_findFits_119 rfl (lv_at hl 3 rfl) ?_
        obtain ⟨r_10, σ_10, τ_10, q_10, h⟩ := bd_some h
        refine gx_cVi (As := [.int x3]) (rest := []) S hK gx_ok hw (c_X8_nextSet l (E := E) N σ_8 τ_8 x3 q_10) cw_X11_359 t_3 cl_9 ⟨Nat.le_of_ble_eq_true rfl, Nat.le_of_ble_eq_true rfl⟩ rfl hl.1 rfl (Nat.le_of_ble_eq_true rfl) ⟨Nat.le_of_ble_eq_true rfl, Nat.le_of_ble_eq_true rfl⟩ dX11_findFits_120 (fun r9 σ9 τ9 H locs hp hw => ?_)
        obtain ⟨rfl, rfl, rfl⟩ := hp
        refine lv_istore_n (lv' := [(3, .int r_10), (0, .ref (E.2.2 + 0)), (1, .int x1), (2, .int x2), (4, .int x4)]) hx hb dX11_findFits_123 rfl hl (by decide) rfl (fun ls hl => ?_)
        refine lv_iinc (v := x4 + 1) (lv' := [(4, .int (x4 + 1)), (3, .int r_10), (0, .ref (E.2.2 + 0)), (1, .int x1), (2, .int x2)]) hx hb dX11_findFits_124 hl (k := 4) rfl rfl (by decide) rfl (fun ls hl => ?_)
        obtain ⟨v_11, e_11, h⟩ := nm_some h
        have hl : lv_has ls 5 [(4, .int v_11), (3, .int r_10), (0, .ref (E.2.2 + 0)), (1, .int x1), (2, .int x2)] := by rw [e_11]; exact hl
        refine lv_goto (tgt := 68) hx hb dX11_findFits_127 (by decide) ?_
        exact hrec_68 σ_10 τ_10 x1 x2 r_10 v_11 _ _ _ _ _ _ h hw (lv_sub hl [2, 3, 4, 1, 0] rfl)
      · rw [if_neg c_9] at h
        refine lv_aload_n hx hb dX11_findFits_106 rfl (lv_at hl 0 rfl) ?_
        refine gx_getr (j := 160) S hK hw t_0 cl_12 15 (by decide) rfl mw_462 rfl dX11_findFits_107 ?_
        refine lv_iload_n hx hb dX11_findFits_110 rfl (lv_at hl 3 rfl) ?_
        refine lv_iconst (v := 0) hx hb dX11_findFits_111 (by decide) ?_
        obtain ⟨u_12, σ_12, τ_12, q_12, h⟩ := bd_some h
        refine gx_cVv (As := [.int x3, .int 0]) (rest := []) S hK gx_ok hw (c_X9_setFitting l (E := E) N σ_8 τ_8 x3 0 q_12) cw_X11_397 t_160 cl_10 ⟨Nat.le_of_ble_eq_true rfl, Nat.le_of_ble_eq_true rfl⟩ rfl hl.1 rfl (Nat.le_of_ble_eq_true rfl) ⟨Nat.le_of_ble_eq_true rfl, Nat.le_of_ble_eq_true rfl⟩ dX11_findFits_112 (fun σ9 τ9 H locs hp hw => ?_)
        obtain ⟨rfl, rfl⟩ := hp
        refine lv_aload_n hx hb dX11_findFits_115 rfl (lv_at hl 0 rfl) ?_
        refine gx_getr (j := 3) S hK hw t_0 cl_12 1 (by decide) rfl mw_448 rfl dX11_findFits_116 ?_
        refine lv_iload_n hx hb dX11_findFits_119 rfl (lv_at hl 3 rfl) ?_
        obtain ⟨r_13, σ_13, τ_13, q_13, h⟩ := bd_some h
        refine gx_cVi (As := [.int x3]) (rest := []) S hK gx_ok hw (c_X8_nextSet l (E := E) N σ_12 τ_12 x3 q_13) cw_X11_359 t_3 cl_9 ⟨Nat.le_of_ble_eq_true rfl, Nat.le_of_ble_eq_true rfl⟩ rfl hl.1 rfl (Nat.le_of_ble_eq_true rfl) ⟨Nat.le_of_ble_eq_true rfl, Nat.le_of_ble_eq_true rfl⟩ dX11_findFits_120 (fun r9 σ9 τ9 H locs hp hw => ?_)
        obtain ⟨rfl, rfl, rfl⟩ := hp
        refine lv_istore_n (lv' := [(3, .int r_13), (0, .ref (E.2.2 + 0)), (1, .int x1), (2, .int x2), (4, .int x4)]) hx hb dX11_findFits_123 rfl hl (by decide) rfl (fun ls hl => ?_)
        refine lv_iinc (v := x4 + 1) (lv' := [(4, .int (x4 + 1)), (3, .int r_13), (0, .ref (E.2.2 + 0)), (1, .int x1), (2, .int x2)]) hx hb dX11_findFits_124 hl (k := 4) rfl rfl (by decide) rfl (fun ls hl => ?_)
        obtain ⟨v_14, e_14, h⟩ := nm_some h
        have hl : lv_has ls 5 [(4, .int v_14), (3, .int r_13), (0, .ref (E.2.2 + 0)), (1, .int x1), (2, .int x2)] := by rw [e_14]; exact hl
        refine lv_goto (tgt := 68) hx hb dX11_findFits_127 (by decide) ?_
        exact hrec_68 σ_13 τ_13 x1 x2 r_13 v_14 _ _ _ _ _ _ h hw (lv_sub hl [2, 3, 4, 1, 0] rfl)
set_option maxHeartbeats 4000000 in
set_option maxRecDepth 100000 in
theorem h_X11_findFits_68 (l : Launch) (S : CallFix P9 m9 C9 cX11_findFits 5 s av.toArray gx_G RX11) (hr : meth.sig.returnType = none) (hlk : meth.locks = false) (hK : gx_K E s) (N : Nat) (rec_9 : gI → gJ → Int32 → Option (Unit × gI × gJ)) (hrec_9 : ∀ (σ : gI) (τ : gJ) (x1 : Int32) (r : Unit) (σ1 : gI) (τ1 : gJ) (H : Heap) (locs : List Loc) (ls : Array Slot), rec_9 σ τ x1 = some (r, σ1, τ1) → gx_W gx_tb gx_tb.length E s σ τ H locs → lv_has ls 5 [(0, .ref (E.2.2 + 0)), (1, .int x1)] → W P9 l e9 (gx_rm 6) s m9 av.toArray below meth C9 H locs 0 0 (gq_Qv below av s E σ1 τ1) (F0 m9 9 ls [])) : ∀ (n : Nat) (σ : gI) (τ : gJ) (x1 : Int32) (x2 : Int32) (x3 : Int32) (x4 : Int32) (r : Unit) (σ1 : gI) (τ1 : gJ), H_X11_findFits_68 N rec_9 n σ τ x1 x2 x3 x4 = some (r, σ1, τ1) → ∀ (H : Heap) (locs : List Loc) (ls : Array Slot), gx_W gx_tb gx_tb.length E s σ τ H locs → lv_has ls 5 [(0, .ref (E.2.2 + 0)), (1, .int x1), (2, .int x2), (3, .int x3), (4, .int x4)] → W P9 l e9 (gx_rm 6) s m9 av.toArray below meth C9 H locs 0 0 (gq_Qv below av s E σ1 τ1) (F0 m9 68 ls []) := by
  intro n
  induction n with
  | zero => intro σ τ x1 x2 x3 x4 r σ1 τ1 h; cases h
  | succ n ih =>
    intro σ τ x1 x2 x3 x4 r σ1 τ1 h H locs ls hw hl
    exact k_X11_findFits_68 l S hr hlk hK N rec_9 hrec_9 (H_X11_findFits_68 N rec_9 n) (fun σ τ x1 x2 x3 x4 r σ1 τ1 H locs ls h hw hl => ih σ τ x1 x2 x3 x4 r σ1 τ1 h H locs ls hw hl) σ τ x1 x2 x3 x4 h hw hl
set_option maxHeartbeats 4000000 in
set_option maxRecDepth 100000 in
theorem k_X11_findFits_9 (l : Launch) (S : CallFix P9 m9 C9 cX11_findFits 5 s av.toArray gx_G RX11) (hr : meth.sig.returnType = none) (hlk : meth.locks = false) (hK : gx_K E s) (N : Nat) (rec_9 : gI → gJ → Int32 → Option (Unit × gI × gJ)) (hrec_9 : ∀ (σ : gI) (τ : gJ) (x1 : Int32) (r : Unit) (σ1 : gI) (τ1 : gJ) (H : Heap) (locs : List Loc) (ls : Array Slot), rec_9 σ τ x1 = some (r, σ1, τ1) → gx_W gx_tb gx_tb.length E s σ τ H locs → lv_has ls 5 [(0, .ref (E.2.2 + 0)), (1, .int x1)] → W P9 l e9 (gx_rm 6) s m9 av.toArray below meth C9 H locs 0 0 (gq_Qv below av s E σ1 τ1) (F0 m9 9 ls [])) (σ : gI) (τ : gJ) (x1 : Int32) {r : Unit} {σ1 : gI} {τ1 : gJ} (h : C_X11_findFits_9 N rec_9 σ τ x1 = some (r, σ1, τ1)) {H : Heap} {locs : List Loc} {ls : Array Slot} (hw : gx_W gx_tb gx_tb.length E s σ τ H locs) (hl : lv_has ls 5 [(0, .ref (E.2.2 + 0)), (1, .int x1)]) : W P9 l e9 (gx_rm 6) s m9 av.toArray below meth C9 H locs 0 0 (gq_Qv below av s E σ1 τ1) (F0 m9 9 ls []) := by
  have hx := S.1
  have hb := S.2.1
  unfold C_X11_findFits_9 at h
  refine lv_iload_n hx hb dX11_findFits_9 rfl (lv_at hl 1 rfl) ?_
  refine lv_aload_n hx hb dX11_findFits_10 rfl (lv_at hl 0 rfl) ?_
  refine gx_getr (j := 152) S hK hw t_0 cl_12 12 (by decide) rfl mw_459 rfl dX11_findFits_11 ?_
  refine gx_get S hK hw t_152 cl_1 3 (by decide) rfl mw_340 rfl dX11_findFits_14 ?_
  refine lv_icmp_ge (tgt := 136) hx hb dX11_findFits_17 (by decide) (fun c_1 => ?_) (fun c_1 => ?_)
  · rw [if_pos c_1] at h
    obtain ⟨-, rfl, rfl⟩ := sm_inj h
    exact gx_rv (post := gq_v σ τ) S hr hlk hw dX11_findFits_136 ⟨rfl, rfl⟩
  · rw [if_neg c_1] at h
    refine lv_aload_n hx hb dX11_findFits_20 rfl (lv_at hl 0 rfl) ?_
    refine gx_getr (j := 152) S hK hw t_0 cl_12 12 (by decide) rfl mw_459 rfl dX11_findFits_21 ?_
    refine lv_iload_n hx hb dX11_findFits_24 rfl (lv_at hl 1 rfl) ?_
    obtain ⟨r_2, σ_2, τ_2, q_2, h⟩ := bd_some h
    refine gx_cVi (As := [.int x1]) (rest := []) S hK gx_ok hw (c_X0_endOf l (E := E) N σ τ x1 q_2) cw_X11_387 t_152 cl_1 ⟨Nat.le_of_ble_eq_true rfl, Nat.le_of_ble_eq_true rfl⟩ rfl hl.1 rfl (Nat.le_of_ble_eq_true rfl) ⟨Nat.le_of_ble_eq_true rfl, Nat.le_of_ble_eq_true rfl⟩ dX11_findFits_25 (fun r9 σ9 τ9 H locs hp hw => ?_)
    obtain ⟨rfl, rfl, rfl⟩ := hp
    refine lv_istore_n (lv' := [(2, .int r_2), (0, .ref (E.2.2 + 0)), (1, .int x1)]) hx hb dX11_findFits_28 rfl hl (by decide) rfl (fun ls hl => ?_)
    refine lv_aload_n hx hb dX11_findFits_29 rfl (lv_at hl 1 rfl) ?_
    refine gx_getr (j := 160) S hK hw t_0 cl_12 15 (by decide) rfl mw_462 rfl dX11_findFits_30 ?_
    refine lv_aload_n hx hb dX11_findFits_33 rfl (lv_at hl 1 rfl) ?_
    refine gx_getr (j := 152) S hK hw t_0 cl_12 12 (by decide) rfl mw_459 rfl dX11_findFits_34 ?_
    refine lv_iload_n hx hb dX11_findFits_37 rfl (lv_at hl 2 rfl) ?_
    obtain ⟨r_3, σ_3, τ_3, q_3, h⟩ := bd_some h
    refine gx_cVi (As := [.int x1]) (rest := [.ref (E.2.2 + 160)]) S hK gx_ok hw (c_X0_spotOf l (E := E) N σ_2 τ_2 x1 q_3) cw_X11_390 t_152 cl_1 ⟨Nat.le_of_ble_eq_true rfl, Nat.le_of_ble_eq_true rfl⟩ rfl hl.1 rfl (Nat.le_of_ble_eq_true rfl) ⟨Nat.le_of_ble_eq_true rfl, Nat.le_of_ble_eq_true rfl⟩ dX11_findFits_38 (fun r9 σ9 τ9 H locs hp hw => ?_)
    obtain ⟨rfl, rfl, rfl⟩ := hp
    refine lv_bipush (v := 99) hx hb dX11_findFits_41 (by decide) ?_
    refine lv_iconst (v := 0) hx hb dX11_findFits_43 (by decide) ?_
    refine lv_iconst (v := 0) hx hb dX11_findFits_44 (by decide) ?_
    refine lv_aload_n hx hb dX11_findFits_45 rfl (lv_at hl 1 rfl) ?_
    refine gx_getr (j := 152) S hK hw t_0 cl_12 12 (by decide) rfl mw_459 rfl dX11_findFits_46 ?_
    refine lv_iload_n hx hb dX11_findFits_49 rfl (lv_at hl 2 rfl) ?_
    obtain ⟨r_4, σ_4, τ_4, q_4, h⟩ := bd_some h
    refine gx_cVi (As := [.int x1]) (rest := [.int 0, .int 0, .int 99, .int r_3, .ref (E.2.2 + 160)]) S hK gx_ok hw (c_X0_minuteOf l (E := E) N σ_3 τ_3 x1 q_4) cw_X11_391 t_152 cl_1 ⟨Nat.le_of_ble_eq_true rfl, Nat.le_of_ble_eq_true rfl⟩ rfl hl.1 rfl (Nat.le_of_ble_eq_true rfl) ⟨Nat.le_of_ble_eq_true rfl, Nat.le_of_ble_eq_true rfl⟩ dX11_findFits_50 (fun r9 σ9 τ9 H locs hp hw => ?_)
    obtain ⟨rfl, rfl, rfl⟩ := hp
    obtain ⟨u_5, σ_5, τ_5, q_5, h⟩ := bd_some h
    refine gx_cVv (As := [.int r_3, .int 99, .int 0, .int 0, .int r_4]) (rest := []) S hK gx_ok hw (c_X9_thinkOf l (E := E) N σ_4 τ_4 r_3 99 0 0 r_4 q_5) cw_X11_327 t_160 cl_10 ⟨Nat.le_of_ble_eq_true rfl, Nat.le_of_ble_eq_true rfl⟩ rfl hl.1 rfl (Nat.le_of_ble_eq_true rfl) ⟨Nat.le_of_ble_eq_true rfl, Nat.le_of_ble_eq_true rfl⟩ dX11_findFits_53 (fun σ9 τ9 H locs hp hw => ?_)
    obtain ⟨rfl, rfl⟩ := hp
    refine lv_aload_n hx hb dX11_findFits_56 rfl (lv_at hl 1 rfl) ?_
    refine gx_getr (j := 160) S hK hw t_0 cl_12 15 (by decide) rfl mw_462 rfl dX11_findFits_57 ?_
    obtain ⟨u_6, σ_6, τ_6, q_6, h⟩ := bd_some h
    refine gx_cVv (As := []) (rest := []) S hK gx_ok hw (c_X9_forgetSets l (E := E) N σ_5 τ_5 q_6) cw_X11_350 t_160 cl_10 ⟨Nat.le_of_ble_eq_true rfl, Nat.le_of_ble_eq_true rfl⟩ rfl hl.1 rfl (Nat.le_of_ble_eq_true rfl) ⟨Nat.le_of_ble_eq_true rfl, Nat.le_of_ble_eq_true rfl⟩ dX11_findFits_60 (fun σ9 τ9 H locs hp hw => ?_)
    obtain ⟨rfl, rfl⟩ := hp
    refine lv_iconst (v := 0) hx hb dX11_findFits_63 (by decide) ?_
    refine lv_istore_n (lv' := [(3, .int 0), (2, .int r_2), (0, .ref (E.2.2 + 0)), (1, .int x1)]) hx hb dX11_findFits_64 rfl hl (by decide) rfl (fun ls hl => ?_)
    refine lv_iconst (v := 0) hx hb dX11_findFits_65 (by decide) ?_
    refine lv_istore (lv' := [(4, .int 0), (3, .int 0), (2, .int r_2), (0, .ref (E.2.2 + 0)), (1, .int x1)]) hx hb dX11_findFits_66 hl (by decide) rfl (fun ls hl => ?_)
    exact h_X11_findFits_68 l S hr hlk hK N rec_9 hrec_9 N σ_6 τ_6 x1 r_2 0 0 _ _ _ h _ _ _ hw (lv_sub hl [3, 4, 2, 1, 0] rfl)
set_option maxHeartbeats 4000000 in
set_option maxRecDepth 100000 in
theorem h_X11_findFits_9 (l : Launch) (S : CallFix P9 m9 C9 cX11_findFits 5 s av.toArray gx_G RX11) (hr : meth.sig.returnType = none) (hlk : meth.locks = false) (hK : gx_K E s) (N : Nat) : ∀ (n : Nat) (σ : gI) (τ : gJ) (x1 : Int32) (r : Unit) (σ1 : gI) (τ1 : gJ), H_X11_findFits_9 N n σ τ x1 = some (r, σ1, τ1) → ∀ (H : Heap) (locs : List Loc) (ls : Array Slot), gx_W gx_tb gx_tb.length E s σ τ H locs → lv_has ls 5 [(0, .ref (E.2.2 + 0)), (1, .int x1)] → W P9 l e9 (gx_rm 6) s m9 av.toArray below meth C9 H locs 0 0 (gq_Qv below av s E σ1 τ1) (F0 m9 9 ls []) := by
  intro n
  induction n with
  | zero => intro σ τ x1 r σ1 τ1 h; cases h
  | succ n ih =>
    intro σ τ x1 r σ1 τ1 h H locs ls hw hl
    exact k_X11_findFits_9 l S hr hlk hK N (H_X11_findFits_9 N n) (fun σ τ x1 r σ1 τ1 H locs ls h hw hl => ih σ τ x1 r σ1 τ1 h H locs ls hw hl) σ τ x1 h hw hl
set_option maxHeartbeats 4000000 in
set_option maxRecDepth 100000 in
theorem b_X11_findFits_0 (l : Launch) (S : CallFix P9 m9 C9 cX11_findFits 5 s av.toArray gx_G RX11) (hr : meth.sig.returnType = none) (hlk : meth.locks = false) (hK : gx_K E s) (N : Nat) (σ : gI) (τ : gJ) {r : Unit} {σ1 : gI} {τ1 : gJ} (h : B_X11_findFits_0 N σ τ = some (r, σ1, τ1)) {H : Heap} {locs : List Loc} {ls : Array Slot} (hw : gx_W gx_tb gx_tb.length E s σ τ H locs) (hl : lv_has ls 5 [(0, .ref (E.2.2 + 0))]) : W P9 l e9 (gx_rm 6) s m9 av.toArray below meth C9 H locs 0 0 (gq_Qv below av s E σ1 τ1) (F0 m9 0 ls []) := by
  have hx := S.1
  have hb := S.2.1
  unfold B_X11_findFits_0 at h
  refine lv_aload_n hx hb dX11_findFits_0 rfl (lv_at hl 0 rfl) ?_
  refine gx_getr (j := 160) S hK hw t_0 cl_12 15 (by decide) rfl mw_462 rfl dX11_findFits_1 ?_
  obtain ⟨u_1, σ_1, τ_1, q_1, h⟩ := bd_some h
  refine gx_cVv (As := []) (rest := []) S hK gx_ok hw (c_X9_fitAll l (E := E) N σ τ q_1) cw_X11_384 t_160 cl_10 ⟨Nat.le_of_ble_eq_true rfl, Nat.le_of_ble_eq_true rfl⟩ rfl hl.1 rfl (Nat.le_of_ble_eq_true rfl) ⟨Nat.le_of_ble_eq_true rfl, Nat.le_of_ble_eq_true rfl⟩ dX11_findFits_4 (fun σ9 τ9 H locs hp hw => ?_)
  obtain ⟨rfl, rfl⟩ := hp
  refine lv_iconst (v := 0) hx hb dX11_findFits_7 (by decide) ?_
  refine lv_istore_n (lv' := [(1, .int 0), (0, .ref (E.2.2 + 0))]) hx hb dX11_findFits_8 rfl hl (by decide) rfl (fun ls hl => ?_)
  exact h_X11_findFits_9 l S hr hlk hK N N σ_1 τ_1 0 _ _ _ h _ _ _ hw (lv_sub hl [1, 0] rfl)
set_option maxHeartbeats 4000000 in
set_option maxRecDepth 100000 in
theorem c_X11_findFits (l : Launch) {E : gE} (N : Nat) (σ : gI) (τ : gJ) {r : Unit} {σ1 : gI} {τ1 : gJ} (h : B_X11_findFits_0 N σ τ = some (r, σ1, τ1)) : gx_Mv l yX11_findFits cX11_findFits 5 none 6 gx_tb E σ τ [.ref (E.2.2 + 0)] (gq_v σ1 τ1) := by
  refine gx_bv (by decide +kernel) (Nat.le_of_ble_eq_true rfl) ?_
  intro P9 e9 s m9 below meth C9 S hr hlk hK hw ls hl
  have hl : lv_has ls 5 [(0, .ref (E.2.2 + 0))] := hl
  exact b_X11_findFits_0 l S hr hlk hK N σ τ h hw hl
/-! X11_flow -/
def B_X11_flow_0 (N : Nat) (σ : gI) (τ : gJ) (x1 : Int32) : Option (Int32 × gI × gJ) := if x1 < 0 then (some ((-1), σ, τ)) else (if 9999 < x1 then (some ((-1), σ, τ)) else (bd (B_X10_in_0 N σ τ x1) fun r_3 σ_3 τ_3 => some (r_3, σ_3, τ_3)))
set_option maxHeartbeats 4000000 in
set_option maxRecDepth 100000 in
theorem b_X11_flow_0 (l : Launch) (S : CallFix P9 m9 C9 cX11_flow 2 s av.toArray gx_G RX11) (hr : meth.sig.returnType = (some .int)) (hlk : meth.locks = false) (hK : gx_K E s) (N : Nat) (σ : gI) (τ : gJ) (x1 : Int32) {r : Int32} {σ1 : gI} {τ1 : gJ} (h : B_X11_flow_0 N σ τ x1 = some (r, σ1, τ1)) {H : Heap} {locs : List Loc} {ls : Array Slot} (hw : gx_W gx_tb gx_tb.length E s σ τ H locs) (hl : lv_has ls 2 [(0, .ref (E.2.2 + 0)), (1, .int x1)]) : W P9 l e9 (gx_rm 1) s m9 av.toArray below meth C9 H locs 0 0 (gq_Qi below av s E r σ1 τ1) (F0 m9 0 ls []) := by
  have hx := S.1
  have hb := S.2.1
  unfold B_X11_flow_0 at h
  refine lv_iload_n hx hb dX11_flow_0 rfl (lv_at hl 1 rfl) ?_
  refine lv_if_lt (tgt := 22) hx hb dX11_flow_1 (by decide) (fun c_1 => ?_) (fun c_1 => ?_)
  · rw [if_pos c_1] at h
    refine lv_iconst (v := (-1)) hx hb dX11_flow_22 (by decide) ?_
    obtain ⟨rfl, rfl, rfl⟩ := sm_inj h
    exact gx_ri (post := gq_p (-1) σ τ) (v := (-1)) S hr hlk hw rfl dX11_flow_23 ⟨rfl, rfl, rfl⟩
  · rw [if_neg c_1] at h
    refine lv_iload_n hx hb dX11_flow_4 rfl (lv_at hl 1 rfl) ?_
    refine lv_sipush (v := 9999) hx hb dX11_flow_5 (by decide) ?_
    refine lv_icmp_gt (tgt := 22) hx hb dX11_flow_8 (by decide) (fun c_2 => ?_) (fun c_2 => ?_)
    · rw [if_pos c_2] at h
      refine lv_iconst (v := (-1)) hx hb dX11_flow_22 (by decide) ?_
      obtain ⟨rfl, rfl, rfl⟩ := sm_inj h
      exact gx_ri (post := gq_p (-1) σ τ) (v := (-1)) S hr hlk hw rfl dX11_flow_23 ⟨rfl, rfl, rfl⟩
    · rw [if_neg c_2] at h
      refine lv_aload_n hx hb dX11_flow_11 rfl (lv_at hl 0 rfl) ?_
      refine gx_getr (j := 15) S hK hw t_0 cl_12 3 (by decide) rfl mw_450 rfl dX11_flow_12 ?_
      refine lv_iload_n hx hb dX11_flow_15 rfl (lv_at hl 1 rfl) ?_
      obtain ⟨r_3, σ_3, τ_3, q_3, h⟩ := bd_some h
      refine gx_cVi (As := [.int x1]) (rest := []) S hK gx_ok hw (c_X10_in l (E := E) N σ τ x1 q_3) cw_X11_198 t_15 cl_11 ⟨Nat.le_of_ble_eq_true rfl, Nat.le_of_ble_eq_true rfl⟩ rfl hl.1 rfl (Nat.le_of_ble_eq_true rfl) ⟨Nat.le_of_ble_eq_true rfl, Nat.le_of_ble_eq_true rfl⟩ dX11_flow_16 (fun r9 σ9 τ9 H locs hp hw => ?_)
      obtain ⟨rfl, rfl, rfl⟩ := hp
      refine lv_goto (tgt := 23) hx hb dX11_flow_19 (by decide) ?_
      obtain ⟨rfl, rfl, rfl⟩ := sm_inj h
      exact gx_ri (post := gq_p r_3 σ_3 τ_3) (v := r_3) S hr hlk hw rfl dX11_flow_23 ⟨rfl, rfl, rfl⟩
set_option maxHeartbeats 4000000 in
set_option maxRecDepth 100000 in
theorem c_X11_flow (l : Launch) {E : gE} (N : Nat) (σ : gI) (τ : gJ) (x1 : Int32) {r : Int32} {σ1 : gI} {τ1 : gJ} (h : B_X11_flow_0 N σ τ x1 = some (r, σ1, τ1)) : gx_Mi l yX11_flow cX11_flow 2 (some .int) 1 gx_tb E σ τ [.ref (E.2.2 + 0), .int x1] (gq_p r σ1 τ1) := by
  refine gx_bi (by decide +kernel) (Nat.le_of_ble_eq_true rfl) ?_
  intro P9 e9 s m9 below meth C9 S hr hlk hK hw ls hl
  have hl : lv_has ls 2 [(0, .ref (E.2.2 + 0)), (1, .int x1)] := hl
  exact b_X11_flow_0 l S hr hlk hK N σ τ x1 h hw hl
/-! X11_forget -/
def B_X11_forget_0 (N : Nat) (σ : gI) (τ : gJ) : Option (Int32 × gI × gJ) := nm (σ 152 3) fun v_1 => nm (up2 σ 152 3 0) fun σ_2 => some (v_1, σ_2, τ)
set_option maxHeartbeats 4000000 in
set_option maxRecDepth 100000 in
theorem b_X11_forget_0 (l : Launch) (S : CallFix P9 m9 C9 cX11_forget 2 s av.toArray gx_G RX11) (hr : meth.sig.returnType = (some .int)) (hlk : meth.locks = false) (hK : gx_K E s) (N : Nat) (σ : gI) (τ : gJ) {r : Int32} {σ1 : gI} {τ1 : gJ} (h : B_X11_forget_0 N σ τ = some (r, σ1, τ1)) {H : Heap} {locs : List Loc} {ls : Array Slot} (hw : gx_W gx_tb gx_tb.length E s σ τ H locs) (hl : lv_has ls 2 [(0, .ref (E.2.2 + 0))]) : W P9 l e9 (gx_rm 0) s m9 av.toArray below meth C9 H locs 0 0 (gq_Qi below av s E r σ1 τ1) (F0 m9 0 ls []) := by
  have hx := S.1
  have hb := S.2.1
  unfold B_X11_forget_0 at h
  refine lv_aload_n hx hb dX11_forget_0 rfl (lv_at hl 0 rfl) ?_
  refine gx_getr (j := 152) S hK hw t_0 cl_12 12 (by decide) rfl mw_459 rfl dX11_forget_1 ?_
  refine gx_get S hK hw t_152 cl_1 3 (by decide) rfl mw_340 rfl dX11_forget_4 ?_
  refine lv_istore_n (lv' := [(1, .int (σ 152 3)), (0, .ref (E.2.2 + 0))]) hx hb dX11_forget_7 rfl hl (by decide) rfl (fun ls hl => ?_)
  obtain ⟨v_1, e_1, h⟩ := nm_some h
  have hl : lv_has ls 2 [(1, .int v_1), (0, .ref (E.2.2 + 0))] := by rw [e_1]; exact hl
  refine lv_aload_n hx hb dX11_forget_8 rfl (lv_at hl 1 rfl) ?_
  refine gx_getr (j := 152) S hK hw t_0 cl_12 12 (by decide) rfl mw_459 rfl dX11_forget_9 ?_
  refine lv_iconst (v := 0) hx hb dX11_forget_12 (by decide) ?_
  refine gx_put S hK gx_ok hw t_152 cl_1 3 (by decide) rfl mw_340 rfl rfl (ty := .int) (v := 0) (by decide +kernel) rfl rfl dX11_forget_13 (fun H locs hw => ?_)
  obtain ⟨σ_2, e_2, h⟩ := nm_some h
  rw [← e_2] at hw
  refine lv_iload_n hx hb dX11_forget_16 rfl (lv_at hl 0 rfl) ?_
  obtain ⟨rfl, rfl, rfl⟩ := sm_inj h
  exact gx_ri (post := gq_p v_1 σ_2 τ) (v := v_1) S hr hlk hw rfl dX11_forget_17 ⟨rfl, rfl, rfl⟩
set_option maxHeartbeats 4000000 in
set_option maxRecDepth 100000 in
theorem c_X11_forget (l : Launch) {E : gE} (N : Nat) (σ : gI) (τ : gJ) {r : Int32} {σ1 : gI} {τ1 : gJ} (h : B_X11_forget_0 N σ τ = some (r, σ1, τ1)) : gx_Mi l yX11_forget cX11_forget 2 (some .int) 0 gx_tb E σ τ [.ref (E.2.2 + 0)] (gq_p r σ1 τ1) := by
  refine gx_bi (by decide +kernel) (Nat.le_of_ble_eq_true rfl) ?_
  intro P9 e9 s m9 below meth C9 S hr hlk hK hw ls hl
  have hl : lv_has ls 2 [(0, .ref (E.2.2 + 0))] := hl
  exact b_X11_forget_0 l S hr hlk hK N σ τ h hw hl
/-! X11_give -/
def B_X11_give_0 (N : Nat) (σ : gI) (τ : gJ) (x1 : Int32) (x2 : Int32) : Option (Int32 × gI × gJ) := bd (B_X6_isOnWay_0 N 30 σ τ x1) fun r_1 σ_1 τ_1 => if r_1 = 0 then (some ((-1), σ_1, τ_1)) else (if x2 < 1 then (some ((-1), σ_1, τ_1)) else (if x2 ≤ 9 then (bd (B_X3_push_0 N 30 σ_1 τ_1) fun _ σ_5 τ_5 => bd (B_X6_enrich_0 N 30 σ_5 τ_5 x1 x2) fun r_6 σ_6 τ_6 => some (r_6, σ_6, τ_6)) else (some ((-1), σ_1, τ_1))))
set_option maxHeartbeats 4000000 in
set_option maxRecDepth 100000 in
theorem b_X11_give_0 (l : Launch) (S : CallFix P9 m9 C9 cX11_give 3 s av.toArray gx_G RX11) (hr : meth.sig.returnType = (some .int)) (hlk : meth.locks = false) (hK : gx_K E s) (N : Nat) (σ : gI) (τ : gJ) (x1 : Int32) (x2 : Int32) {r : Int32} {σ1 : gI} {τ1 : gJ} (h : B_X11_give_0 N σ τ x1 x2 = some (r, σ1, τ1)) {H : Heap} {locs : List Loc} {ls : Array Slot} (hw : gx_W gx_tb gx_tb.length E s σ τ H locs) (hl : lv_has ls 3 [(0, .ref (E.2.2 + 0)), (1, .int x1), (2, .int x2)]) : W P9 l e9 (gx_rm 2) s m9 av.toArray below meth C9 H locs 0 0 (gq_Qi below av s E r σ1 τ1) (F0 m9 0 ls []) := by
  have hx := S.1
  have hb := S.2.1
  unfold B_X11_give_0 at h
  refine lv_aload_n hx hb dX11_give_0 rfl (lv_at hl 0 rfl) ?_
  refine gx_getr (j := 30) S hK hw t_0 cl_12 7 (by decide) rfl mw_454 rfl dX11_give_1 ?_
  refine lv_iload_n hx hb dX11_give_4 rfl (lv_at hl 1 rfl) ?_
  obtain ⟨r_1, σ_1, τ_1, q_1, h⟩ := bd_some h
  refine gx_cVi (As := [.int x1]) (rest := []) S hK gx_ok hw (c_X6_isOnWay l (E := E) N 30 is_30 σ τ x1 q_1) cw_X11_241 t_30 cl_7 ⟨Nat.le_of_ble_eq_true rfl, Nat.le_of_ble_eq_true rfl⟩ rfl hl.1 rfl (Nat.le_of_ble_eq_true rfl) ⟨Nat.le_of_ble_eq_true rfl, Nat.le_of_ble_eq_true rfl⟩ dX11_give_5 (fun r9 σ9 τ9 H locs hp hw => ?_)
  obtain ⟨rfl, rfl, rfl⟩ := hp
  refine lv_if_eq (tgt := 22) hx hb dX11_give_8 (by decide) (fun c_2 => ?_) (fun c_2 => ?_)
  · rw [if_pos c_2] at h
    refine lv_iconst (v := (-1)) hx hb dX11_give_22 (by decide) ?_
    obtain ⟨rfl, rfl, rfl⟩ := sm_inj h
    exact gx_ri (post := gq_p (-1) σ_1 τ_1) (v := (-1)) S hr hlk hw rfl dX11_give_23 ⟨rfl, rfl, rfl⟩
  · rw [if_neg c_2] at h
    refine lv_iload_n hx hb dX11_give_11 rfl (lv_at hl 2 rfl) ?_
    refine lv_iconst (v := 1) hx hb dX11_give_12 (by decide) ?_
    refine lv_icmp_lt (tgt := 22) hx hb dX11_give_13 (by decide) (fun c_3 => ?_) (fun c_3 => ?_)
    · rw [if_pos c_3] at h
      refine lv_iconst (v := (-1)) hx hb dX11_give_22 (by decide) ?_
      obtain ⟨rfl, rfl, rfl⟩ := sm_inj h
      exact gx_ri (post := gq_p (-1) σ_1 τ_1) (v := (-1)) S hr hlk hw rfl dX11_give_23 ⟨rfl, rfl, rfl⟩
    · rw [if_neg c_3] at h
      refine lv_iload_n hx hb dX11_give_16 rfl (lv_at hl 2 rfl) ?_
      refine lv_bipush (v := 9) hx hb dX11_give_17 (by decide) ?_
      refine lv_icmp_le (tgt := 24) hx hb dX11_give_19 (by decide) (fun c_4 => ?_) (fun c_4 => ?_)
      · rw [if_pos c_4] at h
        refine lv_aload_n hx hb dX11_give_24 rfl (lv_at hl 0 rfl) ?_
        refine gx_getr (j := 44) S hK hw t_0 cl_12 9 (by decide) rfl mw_456 rfl dX11_give_25 ?_
        refine lv_aload_n hx hb dX11_give_28 rfl (lv_at hl 0 rfl) ?_
        refine gx_getr (j := 30) S hK hw t_0 cl_12 7 (by decide) rfl mw_454 rfl dX11_give_29 ?_
        obtain ⟨u_5, σ_5, τ_5, q_5, h⟩ := bd_some h
        refine gx_cVv (As := [.ref (E.2.2 + 30)]) (rest := []) S hK gx_ok hw (c_X3_push l (E := E) N 30 is_30 σ_1 τ_1 q_5) cw_X11_204 t_44 cl_4 ⟨Nat.le_of_ble_eq_true rfl, Nat.le_of_ble_eq_true rfl⟩ rfl hl.1 rfl (Nat.le_of_ble_eq_true rfl) ⟨Nat.le_of_ble_eq_true rfl, Nat.le_of_ble_eq_true rfl⟩ dX11_give_32 (fun σ9 τ9 H locs hp hw => ?_)
        obtain ⟨rfl, rfl⟩ := hp
        refine lv_aload_n hx hb dX11_give_35 rfl (lv_at hl 0 rfl) ?_
        refine gx_getr (j := 30) S hK hw t_0 cl_12 7 (by decide) rfl mw_454 rfl dX11_give_36 ?_
        refine lv_iload_n hx hb dX11_give_39 rfl (lv_at hl 1 rfl) ?_
        refine lv_iload_n hx hb dX11_give_40 rfl (lv_at hl 2 rfl) ?_
        obtain ⟨r_6, σ_6, τ_6, q_6, h⟩ := bd_some h
        refine gx_cVi (As := [.int x1, .int x2]) (rest := []) S hK gx_ok hw (c_X6_enrich l (E := E) N 30 is_30 σ_5 τ_5 x1 x2 q_6) cw_X11_244 t_30 cl_7 ⟨Nat.le_of_ble_eq_true rfl, Nat.le_of_ble_eq_true rfl⟩ rfl hl.1 rfl (Nat.le_of_ble_eq_true rfl) ⟨Nat.le_of_ble_eq_true rfl, Nat.le_of_ble_eq_true rfl⟩ dX11_give_41 (fun r9 σ9 τ9 H locs hp hw => ?_)
        obtain ⟨rfl, rfl, rfl⟩ := hp
        obtain ⟨rfl, rfl, rfl⟩ := sm_inj h
        exact gx_ri (post := gq_p r_6 σ_6 τ_6) (v := r_6) S hr hlk hw rfl dX11_give_44 ⟨rfl, rfl, rfl⟩
      · rw [if_neg c_4] at h
        refine lv_iconst (v := (-1)) hx hb dX11_give_22 (by decide) ?_
        obtain ⟨rfl, rfl, rfl⟩ := sm_inj h
        exact gx_ri (post := gq_p (-1) σ_1 τ_1) (v := (-1)) S hr hlk hw rfl dX11_give_23 ⟨rfl, rfl, rfl⟩
set_option maxHeartbeats 4000000 in
set_option maxRecDepth 100000 in
theorem c_X11_give (l : Launch) {E : gE} (N : Nat) (σ : gI) (τ : gJ) (x1 : Int32) (x2 : Int32) {r : Int32} {σ1 : gI} {τ1 : gJ} (h : B_X11_give_0 N σ τ x1 x2 = some (r, σ1, τ1)) : gx_Mi l yX11_give cX11_give 3 (some .int) 2 gx_tb E σ τ [.ref (E.2.2 + 0), .int x1, .int x2] (gq_p r σ1 τ1) := by
  refine gx_bi (by decide +kernel) (Nat.le_of_ble_eq_true rfl) ?_
  intro P9 e9 s m9 below meth C9 S hr hlk hK hw ls hl
  have hl : lv_has ls 3 [(0, .ref (E.2.2 + 0)), (1, .int x1), (2, .int x2)] := hl
  exact b_X11_give_0 l S hr hlk hK N σ τ x1 x2 h hw hl
/-! X11_isAhead -/
def B_X11_isAhead_0 (N : Nat) (σ : gI) (τ : gJ) (x0 : Int32) : Option (Int32 × gI × gJ) := if x0 < 0 then (some (0, σ, τ)) else (if 300 < x0 then (some (0, σ, τ)) else (some (1, σ, τ)))
set_option maxHeartbeats 4000000 in
set_option maxRecDepth 100000 in
theorem b_X11_isAhead_0 (l : Launch) (S : CallFix P9 m9 C9 cX11_isAhead 1 s av.toArray gx_G RX11) (hr : meth.sig.returnType = (some .boolean)) (hlk : meth.locks = false) (hK : gx_K E s) (N : Nat) (σ : gI) (τ : gJ) (x0 : Int32) {r : Int32} {σ1 : gI} {τ1 : gJ} (h : B_X11_isAhead_0 N σ τ x0 = some (r, σ1, τ1)) {H : Heap} {locs : List Loc} {ls : Array Slot} (hw : gx_W gx_tb gx_tb.length E s σ τ H locs) (hl : lv_has ls 1 [(0, .int x0)]) : W P9 l e9 (gx_rm 0) s m9 av.toArray below meth C9 H locs 0 0 (gq_Qi below av s E r σ1 τ1) (F0 m9 0 ls []) := by
  have hx := S.1
  have hb := S.2.1
  unfold B_X11_isAhead_0 at h
  refine lv_iload_n hx hb dX11_isAhead_0 rfl (lv_at hl 0 rfl) ?_
  refine lv_if_lt (tgt := 15) hx hb dX11_isAhead_1 (by decide) (fun c_1 => ?_) (fun c_1 => ?_)
  · rw [if_pos c_1] at h
    refine lv_iconst (v := 0) hx hb dX11_isAhead_15 (by decide) ?_
    obtain ⟨rfl, rfl, rfl⟩ := sm_inj h
    exact gx_ri (post := gq_p 0 σ τ) (v := 0) S hr hlk hw rfl dX11_isAhead_16 ⟨rfl, rfl, rfl⟩
  · rw [if_neg c_1] at h
    refine lv_iload_n hx hb dX11_isAhead_4 rfl (lv_at hl 0 rfl) ?_
    refine lv_sipush (v := 300) hx hb dX11_isAhead_5 (by decide) ?_
    refine lv_icmp_gt (tgt := 15) hx hb dX11_isAhead_8 (by decide) (fun c_2 => ?_) (fun c_2 => ?_)
    · rw [if_pos c_2] at h
      refine lv_iconst (v := 0) hx hb dX11_isAhead_15 (by decide) ?_
      obtain ⟨rfl, rfl, rfl⟩ := sm_inj h
      exact gx_ri (post := gq_p 0 σ τ) (v := 0) S hr hlk hw rfl dX11_isAhead_16 ⟨rfl, rfl, rfl⟩
    · rw [if_neg c_2] at h
      refine lv_iconst (v := 1) hx hb dX11_isAhead_11 (by decide) ?_
      refine lv_goto (tgt := 16) hx hb dX11_isAhead_12 (by decide) ?_
      obtain ⟨rfl, rfl, rfl⟩ := sm_inj h
      exact gx_ri (post := gq_p 1 σ τ) (v := 1) S hr hlk hw rfl dX11_isAhead_16 ⟨rfl, rfl, rfl⟩
set_option maxHeartbeats 4000000 in
set_option maxRecDepth 100000 in
theorem c_X11_isAhead (l : Launch) {E : gE} (N : Nat) (σ : gI) (τ : gJ) (x0 : Int32) {r : Int32} {σ1 : gI} {τ1 : gJ} (h : B_X11_isAhead_0 N σ τ x0 = some (r, σ1, τ1)) : gx_Mi l yX11_isAhead cX11_isAhead 1 (some .boolean) 0 gx_tb E σ τ [.int x0] (gq_p r σ1 τ1) := by
  refine gx_bi (by decide +kernel) (Nat.le_of_ble_eq_true rfl) ?_
  intro P9 e9 s m9 below meth C9 S hr hlk hK hw ls hl
  have hl : lv_has ls 1 [(0, .int x0)] := hl
  exact b_X11_isAhead_0 l S hr hlk hK N σ τ x0 h hw hl
/-! X9_goOn -/
def C_X9_goOn_10 (N : Nat) (rec_10 : gI → gJ → Int32 → Int32 → Option (Unit × gI × gJ)) (σ : gI) (τ : gJ) (x2 : Int32) (x3 : Int32) : Option (Unit × gI × gJ) := if x2 ≤ x3 then (some ((), σ, τ)) else (bd (B_X6_onWay_0 N 171 σ τ) fun r_2 σ_2 τ_2 => if r_2 = 0 then (some ((), σ_2, τ_2)) else (bd (B_X1_pass_0 N 171 σ_2 τ_2) fun _ σ_4 τ_4 => nm (x3 + 1) fun v_5 => rec_10 σ_4 τ_4 x2 v_5))
def H_X9_goOn_10 (N : Nat) : Nat → gI → gJ → Int32 → Int32 → Option (Unit × gI × gJ) := itn (fun rec_10 => C_X9_goOn_10 N rec_10) (fun _ _ _ _ => none)
def B_X9_goOn_0 (N : Nat) (σ : gI) (τ : gJ) (x2 : Int32) : Option (Unit × gI × gJ) := bd (B_X6_copy_0 N 171 30 σ τ) fun _ σ_1 τ_1 => H_X9_goOn_10 N N σ_1 τ_1 x2 0
set_option maxHeartbeats 4000000 in
set_option maxRecDepth 100000 in
theorem k_X9_goOn_10 (l : Launch) (S : CallFix P9 m9 C9 cX9_goOn 4 s av.toArray gx_G RX9) (hr : meth.sig.returnType = none) (hlk : meth.locks = false) (hK : gx_K E s) (N : Nat) (rec_10 : gI → gJ → Int32 → Int32 → Option (Unit × gI × gJ)) (hrec_10 : ∀ (σ : gI) (τ : gJ) (x2 : Int32) (x3 : Int32) (r : Unit) (σ1 : gI) (τ1 : gJ) (H : Heap) (locs : List Loc) (ls : Array Slot), rec_10 σ τ x2 x3 = some (r, σ1, τ1) → gx_W gx_tb gx_tb.length E s σ τ H locs → lv_has ls 4 [(0, .ref (E.2.2 + 160)), (2, .int x2), (3, .int x3)] → W P9 l e9 (gx_rm 4) s m9 av.toArray below meth C9 H locs 0 0 (gq_Qv below av s E σ1 τ1) (F0 m9 10 ls [])) (σ : gI) (τ : gJ) (x2 : Int32) (x3 : Int32) {r : Unit} {σ1 : gI} {τ1 : gJ} (h : C_X9_goOn_10 N rec_10 σ τ x2 x3 = some (r, σ1, τ1)) {H : Heap} {locs : List Loc} {ls : Array Slot} (hw : gx_W gx_tb gx_tb.length E s σ τ H locs) (hl : lv_has ls 4 [(0, .ref (E.2.2 + 160)), (2, .int x2), (3, .int x3)]) : W P9 l e9 (gx_rm 4) s m9 av.toArray below meth C9 H locs 0 0 (gq_Qv below av s E σ1 τ1) (F0 m9 10 ls []) := by
  have hx := S.1
  have hb := S.2.1
  unfold C_X9_goOn_10 at h
  refine lv_iload_n hx hb dX9_goOn_10 rfl (lv_at hl 2 rfl) ?_
  refine lv_iload_n hx hb dX9_goOn_11 rfl (lv_at hl 1 rfl) ?_
  refine lv_icmp_ge (tgt := 42) hx hb dX9_goOn_12 (by decide) (fun c_1 => ?_) (fun c_1 => ?_)
  · rw [if_pos c_1] at h
    obtain ⟨-, rfl, rfl⟩ := sm_inj h
    exact gx_rv (post := gq_v σ τ) S hr hlk hw dX9_goOn_42 ⟨rfl, rfl⟩
  · rw [if_neg c_1] at h
    refine lv_aload_n hx hb dX9_goOn_15 rfl (lv_at hl 0 rfl) ?_
    refine gx_getr (j := 171) S hK hw t_160 cl_10 8 (by decide) rfl mw_425 rfl dX9_goOn_16 ?_
    obtain ⟨r_2, σ_2, τ_2, q_2, h⟩ := bd_some h
    refine gx_cVi (As := []) (rest := []) S hK gx_ok hw (c_X6_onWay l (E := E) N 171 is_171 σ τ q_2) cw_X9_108 t_171 cl_7 ⟨Nat.le_of_ble_eq_true rfl, Nat.le_of_ble_eq_true rfl⟩ rfl hl.1 rfl (Nat.le_of_ble_eq_true rfl) ⟨Nat.le_of_ble_eq_true rfl, Nat.le_of_ble_eq_true rfl⟩ dX9_goOn_19 (fun r9 σ9 τ9 H locs hp hw => ?_)
    obtain ⟨rfl, rfl, rfl⟩ := hp
    refine lv_if_eq (tgt := 42) hx hb dX9_goOn_22 (by decide) (fun c_3 => ?_) (fun c_3 => ?_)
    · rw [if_pos c_3] at h
      obtain ⟨-, rfl, rfl⟩ := sm_inj h
      exact gx_rv (post := gq_v σ_2 τ_2) S hr hlk hw dX9_goOn_42 ⟨rfl, rfl⟩
    · rw [if_neg c_3] at h
      refine lv_aload_n hx hb dX9_goOn_25 rfl (lv_at hl 0 rfl) ?_
      refine gx_getr (j := 158) S hK hw t_160 cl_10 1 (by decide) rfl mw_417 rfl dX9_goOn_26 ?_
      refine lv_aload_n hx hb dX9_goOn_29 rfl (lv_at hl 0 rfl) ?_
      refine gx_getr (j := 171) S hK hw t_160 cl_10 8 (by decide) rfl mw_425 rfl dX9_goOn_30 ?_
      obtain ⟨u_4, σ_4, τ_4, q_4, h⟩ := bd_some h
      refine gx_cVv (As := [.ref (E.2.2 + 171)]) (rest := []) S hK gx_ok hw (c_X1_pass l (E := E) N 171 is_171 σ_2 τ_2 q_4) cw_X9_105 t_158 cl_2 ⟨Nat.le_of_ble_eq_true rfl, Nat.le_of_ble_eq_true rfl⟩ rfl hl.1 rfl (Nat.le_of_ble_eq_true rfl) ⟨Nat.le_of_ble_eq_true rfl, Nat.le_of_ble_eq_true rfl⟩ dX9_goOn_33 (fun σ9 τ9 H locs hp hw => ?_)
      obtain ⟨rfl, rfl⟩ := hp
      refine lv_iinc (v := x3 + 1) (lv' := [(3, .int (x3 + 1)), (0, .ref (E.2.2 + 160)), (2, .int x2)]) hx hb dX9_goOn_36 hl (k := 2) rfl rfl (by decide) rfl (fun ls hl => ?_)
      obtain ⟨v_5, e_5, h⟩ := nm_some h
      have hl : lv_has ls 4 [(3, .int v_5), (0, .ref (E.2.2 + 160)), (2, .int x2)] := by rw [e_5]; exact hl
      refine lv_goto (tgt := 10) hx hb dX9_goOn_39 (by decide) ?_
      exact hrec_10 σ_4 τ_4 x2 v_5 _ _ _ _ _ _ h hw (lv_sub hl [1, 2, 0] rfl)
set_option maxHeartbeats 4000000 in
set_option maxRecDepth 100000 in
theorem h_X9_goOn_10 (l : Launch) (S : CallFix P9 m9 C9 cX9_goOn 4 s av.toArray gx_G RX9) (hr : meth.sig.returnType = none) (hlk : meth.locks = false) (hK : gx_K E s) (N : Nat) : ∀ (n : Nat) (σ : gI) (τ : gJ) (x2 : Int32) (x3 : Int32) (r : Unit) (σ1 : gI) (τ1 : gJ), H_X9_goOn_10 N n σ τ x2 x3 = some (r, σ1, τ1) → ∀ (H : Heap) (locs : List Loc) (ls : Array Slot), gx_W gx_tb gx_tb.length E s σ τ H locs → lv_has ls 4 [(0, .ref (E.2.2 + 160)), (2, .int x2), (3, .int x3)] → W P9 l e9 (gx_rm 4) s m9 av.toArray below meth C9 H locs 0 0 (gq_Qv below av s E σ1 τ1) (F0 m9 10 ls []) := by
  intro n
  induction n with
  | zero => intro σ τ x2 x3 r σ1 τ1 h; cases h
  | succ n ih =>
    intro σ τ x2 x3 r σ1 τ1 h H locs ls hw hl
    exact k_X9_goOn_10 l S hr hlk hK N (H_X9_goOn_10 N n) (fun σ τ x2 x3 r σ1 τ1 H locs ls h hw hl => ih σ τ x2 x3 r σ1 τ1 h H locs ls hw hl) σ τ x2 x3 h hw hl
set_option maxHeartbeats 4000000 in
set_option maxRecDepth 100000 in
theorem b_X9_goOn_0 (l : Launch) (S : CallFix P9 m9 C9 cX9_goOn 4 s av.toArray gx_G RX9) (hr : meth.sig.returnType = none) (hlk : meth.locks = false) (hK : gx_K E s) (N : Nat) (σ : gI) (τ : gJ) (x2 : Int32) {r : Unit} {σ1 : gI} {τ1 : gJ} (h : B_X9_goOn_0 N σ τ x2 = some (r, σ1, τ1)) {H : Heap} {locs : List Loc} {ls : Array Slot} (hw : gx_W gx_tb gx_tb.length E s σ τ H locs) (hl : lv_has ls 4 [(0, .ref (E.2.2 + 160)), (1, .ref (E.2.2 + 30)), (2, .int x2)]) : W P9 l e9 (gx_rm 4) s m9 av.toArray below meth C9 H locs 0 0 (gq_Qv below av s E σ1 τ1) (F0 m9 0 ls []) := by
  have hx := S.1
  have hb := S.2.1
  unfold B_X9_goOn_0 at h
  refine lv_aload_n hx hb dX9_goOn_0 rfl (lv_at hl 0 rfl) ?_
  refine gx_getr (j := 171) S hK hw t_160 cl_10 8 (by decide) rfl mw_425 rfl dX9_goOn_1 ?_
  refine lv_aload_n hx hb dX9_goOn_4 rfl (lv_at hl 1 rfl) ?_
  obtain ⟨u_1, σ_1, τ_1, q_1, h⟩ := bd_some h
  refine gx_cVv (As := [.ref (E.2.2 + 30)]) (rest := []) S hK gx_ok hw (c_X6_copy l (E := E) N 171 30 is_171 is_30 σ τ q_1) cw_X9_63 t_171 cl_7 ⟨Nat.le_of_ble_eq_true rfl, Nat.le_of_ble_eq_true rfl⟩ rfl hl.1 rfl (Nat.le_of_ble_eq_true rfl) ⟨Nat.le_of_ble_eq_true rfl, Nat.le_of_ble_eq_true rfl⟩ dX9_goOn_5 (fun σ9 τ9 H locs hp hw => ?_)
  obtain ⟨rfl, rfl⟩ := hp
  refine lv_iconst (v := 0) hx hb dX9_goOn_8 (by decide) ?_
  refine lv_istore_n (lv' := [(3, .int 0), (0, .ref (E.2.2 + 160)), (1, .ref (E.2.2 + 30)), (2, .int x2)]) hx hb dX9_goOn_9 rfl hl (by decide) rfl (fun ls hl => ?_)
  exact h_X9_goOn_10 l S hr hlk hK N N σ_1 τ_1 x2 0 _ _ _ h _ _ _ hw (lv_sub hl [1, 3, 0] rfl)
set_option maxHeartbeats 4000000 in
set_option maxRecDepth 100000 in
theorem c_X9_goOn (l : Launch) {E : gE} (N : Nat) (σ : gI) (τ : gJ) (x2 : Int32) {r : Unit} {σ1 : gI} {τ1 : gJ} (h : B_X9_goOn_0 N σ τ x2 = some (r, σ1, τ1)) : gx_Mv l yX9_goOn cX9_goOn 4 none 4 gx_tb E σ τ [.ref (E.2.2 + 160), .ref (E.2.2 + 30), .int x2] (gq_v σ1 τ1) := by
  refine gx_bv (by decide +kernel) (Nat.le_of_ble_eq_true rfl) ?_
  intro P9 e9 s m9 below meth C9 S hr hlk hK hw ls hl
  have hl : lv_has ls 4 [(0, .ref (E.2.2 + 160)), (1, .ref (E.2.2 + 30)), (2, .int x2)] := hl
  exact b_X9_goOn_0 l S hr hlk hK N σ τ x2 h hw hl
end F2
