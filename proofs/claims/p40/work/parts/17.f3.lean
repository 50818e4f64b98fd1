section F3
variable {a9 v9 : Nat} {w9 : Value} {P9 : Program} {e9 : Env} {s : State} {m9 : MethodId} {below : List Frame} {meth : Method} {C9 : Code} {E : gE} {av : List Value}
/-! X11_homes -/
def B_X11_homes_0 (N : Nat) (σ : gI) (τ : gJ) (x1 : Int32) : Option (Int32 × gI × gJ) := bd (B_X11_isAhead_0 N σ τ x1) fun r_1 σ_1 τ_1 => if r_1 = 0 then (some ((-1), σ_1, τ_1)) else (bd (B_X9_goOn_0 N σ_1 τ_1 x1) fun _ σ_3 τ_3 => bd (B_X6_onWay_0 N 171 σ_3 τ_3) fun r_4 σ_4 τ_4 => bd (B_X4_tell__0 N σ_4 τ_4 ((σ_3 171 10).toInt64) r_4.toInt64) fun _ σ_5 τ_5 => some (σ_5 171 9, σ_5, τ_5))
set_option maxHeartbeats 4000000 in
set_option maxRecDepth 100000 in
theorem b_X11_homes_0 (l : Launch) (S : CallFix P9 m9 C9 cX11_homes 2 s av.toArray gx_G RX11) (hr : meth.sig.returnType = (some .int)) (hlk : meth.locks = false) (hK : gx_K E s) (N : Nat) (σ : gI) (τ : gJ) (x1 : Int32) {r : Int32} {σ1 : gI} {τ1 : gJ} (h : B_X11_homes_0 N σ τ x1 = some (r, σ1, τ1)) {H : Heap} {locs : List Loc} {ls : Array Slot} (hw : gx_W gx_tb gx_tb.length E s σ τ H locs) (hl : lv_has ls 2 [(0, .ref (E.2.2 + 0)), (1, .int x1)]) : W P9 l e9 (gx_rm 5) s m9 av.toArray below meth C9 H locs 0 0 (gq_Qi below av s E r σ1 τ1) (F0 m9 0 ls []) := by
  have hx := S.1
  have hb := S.2.1
  unfold B_X11_homes_0 at h
  refine lv_iload_n hx hb dX11_homes_0 rfl (lv_at hl 1 rfl) ?_
  obtain ⟨r_1, σ_1, τ_1, q_1, h⟩ := bd_some h
  refine gx_cSi (As := [.int x1]) (rest := []) S hK gx_ok hw (c_X11_isAhead l (E := E) N σ τ x1 q_1) cw_X11_290 ⟨Nat.le_of_ble_eq_true rfl, Nat.le_of_ble_eq_true rfl⟩ rfl hl.1 rfl (Nat.le_of_ble_eq_true rfl) ⟨Nat.le_of_ble_eq_true rfl, Nat.le_of_ble_eq_true rfl⟩ dX11_homes_1 (fun r9 σ9 τ9 H locs hp hw => ?_)
  obtain ⟨rfl, rfl, rfl⟩ := hp
  refine lv_if_ne (tgt := 9) hx hb dX11_homes_4 (by decide) (fun c_2 => ?_) (fun c_2 => ?_)
  · rw [if_neg c_2] at h
    refine lv_aload_n hx hb dX11_homes_9 rfl (lv_at hl 0 rfl) ?_
    refine gx_getr (j := 160) S hK hw t_0 cl_12 15 (by decide) rfl mw_462 rfl dX11_homes_10 ?_
    refine lv_aload_n hx hb dX11_homes_13 rfl (lv_at hl 0 rfl) ?_
    refine gx_getr (j := 30) S hK hw t_0 cl_12 7 (by decide) rfl mw_454 rfl dX11_homes_14 ?_
    refine lv_iload_n hx hb dX11_homes_17 rfl (lv_at hl 1 rfl) ?_
    obtain ⟨u_3, σ_3, τ_3, q_3, h⟩ := bd_some h
    refine gx_cVv (As := [.ref (E.2.2 + 30), .int x1]) (rest := []) S hK gx_ok hw (c_X9_goOn l (E := E) N σ_1 τ_1 x1 q_3) cw_X11_293 t_160 cl_10 ⟨Nat.le_of_ble_eq_true rfl, Nat.le_of_ble_eq_true rfl⟩ rfl hl.1 rfl (Nat.le_of_ble_eq_true rfl) ⟨Nat.le_of_ble_eq_true rfl, Nat.le_of_ble_eq_true rfl⟩ dX11_homes_18 (fun σ9 τ9 H locs hp hw => ?_)
    obtain ⟨rfl, rfl⟩ := hp
    refine lv_aload_n hx hb dX11_homes_21 rfl (lv_at hl 0 rfl) ?_
    refine gx_getr (j := 156) S hK hw t_0 cl_12 13 (by decide) rfl mw_460 rfl dX11_homes_22 ?_
    refine lv_aload_n hx hb dX11_homes_25 rfl (lv_at hl 0 rfl) ?_
    refine gx_getr (j := 160) S hK hw t_0 cl_12 15 (by decide) rfl mw_462 rfl dX11_homes_26 ?_
    refine gx_getr (j := 171) S hK hw t_160 cl_10 8 (by decide) rfl mw_426 rfl dX11_homes_29 ?_
    refine gx_get S hK hw t_171 cl_7 10 (by decide) rfl mw_286 rfl dX11_homes_32 ?_
    refine lv_i2l (v := (σ_3 171 10).toInt64) hx hb dX11_homes_35 rfl ?_
    refine lv_aload_n hx hb dX11_homes_36 rfl (lv_at hl 0 rfl) ?_
    refine gx_getr (j := 160) S hK hw t_0 cl_12 15 (by decide) rfl mw_462 rfl dX11_homes_37 ?_
    refine gx_getr (j := 171) S hK hw t_160 cl_10 8 (by decide) rfl mw_426 rfl dX11_homes_40 ?_
    obtain ⟨r_4, σ_4, τ_4, q_4, h⟩ := bd_some h
    refine gx_cVi (As := []) (rest := [.long ((σ_3 171 10).toInt64), .ref (E.2.2 + 156)]) S hK gx_ok hw (c_X6_onWay l (E := E) N 171 is_171 σ_3 τ_3 q_4) cw_X11_166 t_171 cl_7 ⟨Nat.le_of_ble_eq_true rfl, Nat.le_of_ble_eq_true rfl⟩ rfl hl.1 rfl (Nat.le_of_ble_eq_true rfl) ⟨Nat.le_of_ble_eq_true rfl, Nat.le_of_ble_eq_true rfl⟩ dX11_homes_43 (fun r9 σ9 τ9 H locs hp hw => ?_)
    obtain ⟨rfl, rfl, rfl⟩ := hp
    refine lv_i2l (v := r_4.toInt64) hx hb dX11_homes_46 rfl ?_
    obtain ⟨u_5, σ_5, τ_5, q_5, h⟩ := bd_some h
    refine gx_cVv (As := [.long ((σ_3 171 10).toInt64), .long r_4.toInt64]) (rest := []) S hK gx_ok hw (c_X4_tell_ l (E := E) N σ_4 τ_4 ((σ_3 171 10).toInt64) r_4.toInt64 q_5) cw_X11_257 t_156 cl_5 ⟨Nat.le_of_ble_eq_true rfl, Nat.le_of_ble_eq_true rfl⟩ rfl hl.1 rfl (Nat.le_of_ble_eq_true rfl) ⟨Nat.le_of_ble_eq_true rfl, Nat.le_of_ble_eq_true rfl⟩ dX11_homes_47 (fun σ9 τ9 H locs hp hw => ?_)
    obtain ⟨rfl, rfl⟩ := hp
    refine lv_aload_n hx hb dX11_homes_50 rfl (lv_at hl 0 rfl) ?_
    refine gx_getr (j := 160) S hK hw t_0 cl_12 15 (by decide) rfl mw_462 rfl dX11_homes_51 ?_
    refine gx_getr (j := 171) S hK hw t_160 cl_10 8 (by decide) rfl mw_426 rfl dX11_homes_54 ?_
    refine gx_get S hK hw t_171 cl_7 9 (by decide) rfl mw_283 rfl dX11_homes_57 ?_
    obtain ⟨rfl, rfl, rfl⟩ := sm_inj h
    exact gx_ri (post := gq_p (σ_5 171 9) σ_5 τ_5) (v := σ_5 171 9) S hr hlk hw rfl dX11_homes_60 ⟨rfl, rfl, rfl⟩
  · rw [if_pos c_2] at h
    refine lv_iconst (v := (-1)) hx hb dX11_homes_7 (by decide) ?_
    obtain ⟨rfl, rfl, rfl⟩ := sm_inj h
    exact gx_ri (post := gq_p (-1) σ_1 τ_1) (v := (-1)) S hr hlk hw rfl dX11_homes_8 ⟨rfl, rfl, rfl⟩
set_option maxHeartbeats 4000000 in
set_option maxRecDepth 100000 in
theorem c_X11_homes (l : Launch) {E : gE} (N : Nat) (σ : gI) (τ : gJ) (x1 : Int32) {r : Int32} {σ1 : gI} {τ1 : gJ} (h : B_X11_homes_0 N σ τ x1 = some (r, σ1, τ1)) : gx_Mi l yX11_homes cX11_homes 2 (some .int) 5 gx_tb E σ τ [.ref (E.2.2 + 0), .int x1] (gq_p r σ1 τ1) := by
  refine gx_bi (by decide +kernel) (Nat.le_of_ble_eq_true rfl) ?_
  intro P9 e9 s m9 below meth C9 S hr hlk hK hw ls hl
  have hl : lv_has ls 2 [(0, .ref (E.2.2 + 0)), (1, .int x1)] := hl
  exact b_X11_homes_0 l S hr hlk hK N σ τ x1 h hw hl
/-! X11_isWait -/
def B_X11_isWait_0 (N : Nat) (σ : gI) (τ : gJ) (x0 : Int32) : Option (Int32 × gI × gJ) := if x0 < 0 then (some (0, σ, τ)) else (if 99 < x0 then (some (0, σ, τ)) else (some (1, σ, τ)))
set_option maxHeartbeats 4000000 in
set_option maxRecDepth 100000 in
theorem b_X11_isWait_0 (l : Launch) (S : CallFix P9 m9 C9 cX11_isWait 1 s av.toArray gx_G RX11) (hr : meth.sig.returnType = (some .boolean)) (hlk : meth.locks = false) (hK : gx_K E s) (N : Nat) (σ : gI) (τ : gJ) (x0 : Int32) {r : Int32} {σ1 : gI} {τ1 : gJ} (h : B_X11_isWait_0 N σ τ x0 = some (r, σ1, τ1)) {H : Heap} {locs : List Loc} {ls : Array Slot} (hw : gx_W gx_tb gx_tb.length E s σ τ H locs) (hl : lv_has ls 1 [(0, .int x0)]) : W P9 l e9 (gx_rm 0) s m9 av.toArray below meth C9 H locs 0 0 (gq_Qi below av s E r σ1 τ1) (F0 m9 0 ls []) := by
  have hx := S.1
  have hb := S.2.1
  unfold B_X11_isWait_0 at h
  refine lv_iload_n hx hb dX11_isWait_0 rfl (lv_at hl 0 rfl) ?_
  refine lv_if_lt (tgt := 14) hx hb dX11_isWait_1 (by decide) (fun c_1 => ?_) (fun c_1 => ?_)
  · rw [if_pos c_1] at h
    refine lv_iconst (v := 0) hx hb dX11_isWait_14 (by decide) ?_
    obtain ⟨rfl, rfl, rfl⟩ := sm_inj h
    exact gx_ri (post := gq_p 0 σ τ) (v := 0) S hr hlk hw rfl dX11_isWait_15 ⟨rfl, rfl, rfl⟩
  · rw [if_neg c_1] at h
    refine lv_iload_n hx hb dX11_isWait_4 rfl (lv_at hl 0 rfl) ?_
    refine lv_bipush (v := 99) hx hb dX11_isWait_5 (by decide) ?_
    refine lv_icmp_gt (tgt := 14) hx hb dX11_isWait_7 (by decide) (fun c_2 => ?_) (fun c_2 => ?_)
    · rw [if_pos c_2] at h
      refine lv_iconst (v := 0) hx hb dX11_isWait_14 (by decide) ?_
      obtain ⟨rfl, rfl, rfl⟩ := sm_inj h
      exact gx_ri (post := gq_p 0 σ τ) (v := 0) S hr hlk hw rfl dX11_isWait_15 ⟨rfl, rfl, rfl⟩
    · rw [if_neg c_2] at h
      refine lv_iconst (v := 1) hx hb dX11_isWait_10 (by decide) ?_
      refine lv_goto (tgt := 15) hx hb dX11_isWait_11 (by decide) ?_
      obtain ⟨rfl, rfl, rfl⟩ := sm_inj h
      exact gx_ri (post := gq_p 1 σ τ) (v := 1) S hr hlk hw rfl dX11_isWait_15 ⟨rfl, rfl, rfl⟩
set_option maxHeartbeats 4000000 in
set_option maxRecDepth 100000 in
theorem c_X11_isWait (l : Launch) {E : gE} (N : Nat) (σ : gI) (τ : gJ) (x0 : Int32) {r : Int32} {σ1 : gI} {τ1 : gJ} (h : B_X11_isWait_0 N σ τ x0 = some (r, σ1, τ1)) : gx_Mi l yX11_isWait cX11_isWait 1 (some .boolean) 0 gx_tb E σ τ [.int x0] (gq_p r σ1 τ1) := by
  refine gx_bi (by decide +kernel) (Nat.le_of_ble_eq_true rfl) ?_
  intro P9 e9 s m9 below meth C9 S hr hlk hK hw ls hl
  have hl : lv_has ls 1 [(0, .int x0)] := hl
  exact b_X11_isWait_0 l S hr hlk hK N σ τ x0 h hw hl
/-! X11_keep -/
def B_X11_keep_0 (N : Nat) (σ : gI) (τ : gJ) (x1 : Int32) : Option (Int32 × gI × gJ) := if x1 < 0 then (some (0, σ, τ)) else (if x1 < 3 then (ck x1 3 fun j_3 => bd (B_X6_copy_0 N (178 + 7 * j_3) 30 σ τ) fun _ σ_4 τ_4 => nm (up2 σ_4 0 11 ((σ_4 0 11) ||| (1 <<< (x1 &&& 31)))) fun σ_5 => some (1, σ_5, τ_4)) else (some (0, σ, τ)))
set_option maxHeartbeats 4000000 in
set_option maxRecDepth 100000 in
theorem b_X11_keep_0 (l : Launch) (S : CallFix P9 m9 C9 cX11_keep 2 s av.toArray gx_G RX11) (hr : meth.sig.returnType = (some .boolean)) (hlk : meth.locks = false) (hK : gx_K E s) (N : Nat) (σ : gI) (τ : gJ) (x1 : Int32) {r : Int32} {σ1 : gI} {τ1 : gJ} (h : B_X11_keep_0 N σ τ x1 = some (r, σ1, τ1)) {H : Heap} {locs : List Loc} {ls : Array Slot} (hw : gx_W gx_tb gx_tb.length E s σ τ H locs) (hl : lv_has ls 2 [(0, .ref (E.2.2 + 0)), (1, .int x1)]) : W P9 l e9 (gx_rm 1) s m9 av.toArray below meth C9 H locs 0 0 (gq_Qi below av s E r σ1 τ1) (F0 m9 0 ls []) := by
  have hx := S.1
  have hb := S.2.1
  unfold B_X11_keep_0 at h
  refine lv_iload_n hx hb dX11_keep_0 rfl (lv_at hl 1 rfl) ?_
  refine lv_if_lt (tgt := 9) hx hb dX11_keep_1 (by decide) (fun c_1 => ?_) (fun c_1 => ?_)
  · rw [if_pos c_1] at h
    refine lv_iconst (v := 0) hx hb dX11_keep_9 (by decide) ?_
    obtain ⟨rfl, rfl, rfl⟩ := sm_inj h
    exact gx_ri (post := gq_p 0 σ τ) (v := 0) S hr hlk hw rfl dX11_keep_10 ⟨rfl, rfl, rfl⟩
  · rw [if_neg c_1] at h
    refine lv_iload_n hx hb dX11_keep_4 rfl (lv_at hl 1 rfl) ?_
    refine lv_iconst (v := 3) hx hb dX11_keep_5 (by decide) ?_
    refine lv_icmp_lt (tgt := 11) hx hb dX11_keep_6 (by decide) (fun c_2 => ?_) (fun c_2 => ?_)
    · rw [if_pos c_2] at h
      refine lv_aload_n hx hb dX11_keep_11 rfl (lv_at hl 0 rfl) ?_
      refine gx_getr (j := 151) S hK hw t_0 cl_12 10 (by decide) rfl mw_457 rfl dX11_keep_12 ?_
      refine lv_iload_n hx hb dX11_keep_15 rfl (lv_at hl 1 rfl) ?_
      obtain ⟨j_3, hj_3, hi_3, h⟩ := ck_some h
      refine gx_aald (r := 178 + 7 * j_3) S hK hw t_151 j_3 hj_3 hi_3 (ra_kept (in_lt hi_3 hj_3)) dX11_keep_16 ?_
      refine lv_aload_n hx hb dX11_keep_17 rfl (lv_at hl 0 rfl) ?_
      refine gx_getr (j := 30) S hK hw t_0 cl_12 7 (by decide) rfl mw_454 rfl dX11_keep_18 ?_
      obtain ⟨u_4, σ_4, τ_4, q_4, h⟩ := bd_some h
      refine gx_cVv (As := [.ref (E.2.2 + 30)]) (rest := []) S hK gx_ok hw (c_X6_copy l (E := E) N (178 + 7 * j_3) 30 (tb_kept (in_lt hi_3 hj_3)) is_30 σ τ q_4) cw_X11_270 (tb_kept (in_lt hi_3 hj_3)).1 cl_7 ⟨Nat.le_of_ble_eq_true rfl, Nat.le_of_ble_eq_true rfl⟩ rfl hl.1 rfl (Nat.le_of_ble_eq_true rfl) ⟨Nat.le_of_ble_eq_true rfl, Nat.le_of_ble_eq_true rfl⟩ dX11_keep_21 (fun σ9 τ9 H locs hp hw => ?_)
      obtain ⟨rfl, rfl⟩ := hp
      refine lv_aload_n hx hb dX11_keep_24 rfl (lv_at hl 0 rfl) ?_
      refine lv_dup hx hb dX11_keep_25 rfl ?_
      refine gx_get S hK hw t_0 cl_12 11 (by decide) rfl mw_458 rfl dX11_keep_26 ?_
      refine lv_iconst (v := 1) hx hb dX11_keep_29 (by decide) ?_
      refine lv_iload_n hx hb dX11_keep_30 rfl (lv_at hl 1 rfl) ?_
      refine lv_ishl hx hb dX11_keep_31 ?_
      refine lv_ior hx hb dX11_keep_32 ?_
      refine gx_put S hK gx_ok hw t_0 cl_12 11 (by decide) rfl mw_458 rfl rfl (ty := .int) (v := (σ_4 0 11) ||| (1 <<< (x1 &&& 31))) (by decide +kernel) rfl rfl dX11_keep_33 (fun H locs hw => ?_)
      obtain ⟨σ_5, e_5, h⟩ := nm_some h
      rw [← e_5] at hw
      refine lv_iconst (v := 1) hx hb dX11_keep_36 (by decide) ?_
      obtain ⟨rfl, rfl, rfl⟩ := sm_inj h
      exact gx_ri (post := gq_p 1 σ_5 τ_4) (v := 1) S hr hlk hw rfl dX11_keep_37 ⟨rfl, rfl, rfl⟩
    · rw [if_neg c_2] at h
      refine lv_iconst (v := 0) hx hb dX11_keep_9 (by decide) ?_
      obtain ⟨rfl, rfl, rfl⟩ := sm_inj h
      exact gx_ri (post := gq_p 0 σ τ) (v := 0) S hr hlk hw rfl dX11_keep_10 ⟨rfl, rfl, rfl⟩
set_option maxHeartbeats 4000000 in
set_option maxRecDepth 100000 in
theorem c_X11_keep (l : Launch) {E : gE} (N : Nat) (σ : gI) (τ : gJ) (x1 : Int32) {r : Int32} {σ1 : gI} {τ1 : gJ} (h : B_X11_keep_0 N σ τ x1 = some (r, σ1, τ1)) : gx_Mi l yX11_keep cX11_keep 2 (some .boolean) 1 gx_tb E σ τ [.ref (E.2.2 + 0), .int x1] (gq_p r σ1 τ1) := by
  refine gx_bi (by decide +kernel) (Nat.le_of_ble_eq_true rfl) ?_
  intro P9 e9 s m9 below meth C9 S hr hlk hK hw ls hl
  have hl : lv_has ls 2 [(0, .ref (E.2.2 + 0)), (1, .int x1)] := hl
  exact b_X11_keep_0 l S hr hlk hK N σ τ x1 h hw hl
/-! X11_lowest -/
def C_X11_lowest_2 (N : Nat) (rec_2 : gI → gJ → Int32 → Int32 → Option (Int32 × gI × gJ)) (σ : gI) (τ : gJ) (x0 : Int32) (x1 : Int32) : Option (Int32 × gI × gJ) := if 32 ≤ x1 then (some ((-1), σ, τ)) else (if (x0 >>> (x1 &&& 31)) &&& 1 = 0 then (nm (x1 + 1) fun v_3 => rec_2 σ τ x0 v_3) else (some (x1, σ, τ)))
def H_X11_lowest_2 (N : Nat) : Nat → gI → gJ → Int32 → Int32 → Option (Int32 × gI × gJ) := itn (fun rec_2 => C_X11_lowest_2 N rec_2) (fun _ _ _ _ => none)
def B_X11_lowest_0 (N : Nat) (σ : gI) (τ : gJ) (x0 : Int32) : Option (Int32 × gI × gJ) := H_X11_lowest_2 N N σ τ x0 0
set_option maxHeartbeats 4000000 in
set_option maxRecDepth 100000 in
theorem k_X11_lowest_2 (l : Launch) (S : CallFix P9 m9 C9 cX11_lowest 2 s av.toArray gx_G RX11) (hr : meth.sig.returnType = (some .int)) (hlk : meth.locks = false) (hK : gx_K E s) (N : Nat) (rec_2 : gI → gJ → Int32 → Int32 → Option (Int32 × gI × gJ)) (hrec_2 : ∀ (σ : gI) (τ : gJ) (x0 : Int32) (x1 : Int32) (r : Int32) (σ1 : gI) (τ1 : gJ) (H : Heap) (locs : List Loc) (ls : Array Slot), rec_2 σ τ x0 x1 = some (r, σ1, τ1) → gx_W gx_tb gx_tb.length E s σ τ H locs → lv_has ls 2 [(0, .int x0), (1, .int x1)] → W P9 l e9 (gx_rm 0) s m9 av.toArray below meth C9 H locs 0 0 (gq_Qi below av s E r σ1 τ1) (F0 m9 2 ls [])) (σ : gI) (τ : gJ) (x0 : Int32) (x1 : Int32) {r : Int32} {σ1 : gI} {τ1 : gJ} (h : C_X11_lowest_2 N rec_2 σ τ x0 x1 = some (r, σ1, τ1)) {H : Heap} {locs : List Loc} {ls : Array Slot} (hw : gx_W gx_tb gx_tb.length E s σ τ H locs) (hl : lv_has ls 2 [(0, .int x0), (1, .int x1)]) : W P9 l e9 (gx_rm 0) s m9 av.toArray below meth C9 H locs 0 0 (gq_Qi below av s E r σ1 τ1) (F0 m9 2 ls []) := by
  have hx := S.1
  have hb := S.2.1
  unfold C_X11_lowest_2 at h
  refine lv_iload_n hx hb dX11_lowest_2 rfl (lv_at hl 1 rfl) ?_
  refine lv_bipush (v := 32) hx hb dX11_lowest_3 (by decide) ?_
  refine lv_icmp_ge (tgt := 24) hx hb dX11_lowest_5 (by decide) (fun c_1 => ?_) (fun c_1 => ?_)
  · rw [if_pos c_1] at h
    refine lv_iconst (v := (-1)) hx hb dX11_lowest_24 (by decide) ?_
    obtain ⟨rfl, rfl, rfl⟩ := sm_inj h
    exact gx_ri (post := gq_p (-1) σ τ) (v := (-1)) S hr hlk hw rfl dX11_lowest_25 ⟨rfl, rfl, rfl⟩
  · rw [if_neg c_1] at h
    refine lv_iload_n hx hb dX11_lowest_8 rfl (lv_at hl 0 rfl) ?_
    refine lv_iload_n hx hb dX11_lowest_9 rfl (lv_at hl 1 rfl) ?_
    refine lv_ishr hx hb dX11_lowest_10 ?_
    refine lv_iconst (v := 1) hx hb dX11_lowest_11 (by decide) ?_
    refine lv_iand hx hb dX11_lowest_12 ?_
    refine lv_if_eq (tgt := 18) hx hb dX11_lowest_13 (by decide) (fun c_2 => ?_) (fun c_2 => ?_)
    · rw [if_pos c_2] at h
      refine lv_iinc (v := x1 + 1) (lv' := [(1, .int (x1 + 1)), (0, .int x0)]) hx hb dX11_lowest_18 hl (k := 1) rfl rfl (by decide) rfl (fun ls hl => ?_)
      obtain ⟨v_3, e_3, h⟩ := nm_some h
      have hl : lv_has ls 2 [(1, .int v_3), (0, .int x0)] := by rw [e_3]; exact hl
      refine lv_goto (tgt := 2) hx hb dX11_lowest_21 (by decide) ?_
      exact hrec_2 σ τ x0 v_3 _ _ _ _ _ _ h hw (lv_sub hl [1, 0] rfl)
    · rw [if_neg c_2] at h
      refine lv_iload_n hx hb dX11_lowest_16 rfl (lv_at hl 1 rfl) ?_
      obtain ⟨rfl, rfl, rfl⟩ := sm_inj h
      exact gx_ri (post := gq_p x1 σ τ) (v := x1) S hr hlk hw rfl dX11_lowest_17 ⟨rfl, rfl, rfl⟩
set_option maxHeartbeats 4000000 in
set_option maxRecDepth 100000 in
theorem h_X11_lowest_2 (l : Launch) (S : CallFix P9 m9 C9 cX11_lowest 2 s av.toArray gx_G RX11) (hr : meth.sig.returnType = (some .int)) (hlk : meth.locks = false) (hK : gx_K E s) (N : Nat) : ∀ (n : Nat) (σ : gI) (τ : gJ) (x0 : Int32) (x1 : Int32) (r : Int32) (σ1 : gI) (τ1 : gJ), H_X11_lowest_2 N n σ τ x0 x1 = some (r, σ1, τ1) → ∀ (H : Heap) (locs : List Loc) (ls : Array Slot), gx_W gx_tb gx_tb.length E s σ τ H locs → lv_has ls 2 [(0, .int x0), (1, .int x1)] → W P9 l e9 (gx_rm 0) s m9 av.toArray below meth C9 H locs 0 0 (gq_Qi below av s E r σ1 τ1) (F0 m9 2 ls []) := by
  intro n
  induction n with
  | zero => intro σ τ x0 x1 r σ1 τ1 h; cases h
  | succ n ih =>
    intro σ τ x0 x1 r σ1 τ1 h H locs ls hw hl
    exact k_X11_lowest_2 l S hr hlk hK N (H_X11_lowest_2 N n) (fun σ τ x0 x1 r σ1 τ1 H locs ls h hw hl => ih σ τ x0 x1 r σ1 τ1 h H locs ls hw hl) σ τ x0 x1 h hw hl
set_option maxHeartbeats 4000000 in
set_option maxRecDepth 100000 in
theorem b_X11_lowest_0 (l : Launch) (S : CallFix P9 m9 C9 cX11_lowest 2 s av.toArray gx_G RX11) (hr : meth.sig.returnType = (some .int)) (hlk : meth.locks = false) (hK : gx_K E s) (N : Nat) (σ : gI) (τ : gJ) (x0 : Int32) {r : Int32} {σ1 : gI} {τ1 : gJ} (h : B_X11_lowest_0 N σ τ x0 = some (r, σ1, τ1)) {H : Heap} {locs : List Loc} {ls : Array Slot} (hw : gx_W gx_tb gx_tb.length E s σ τ H locs) (hl : lv_has ls 2 [(0, .int x0)]) : W P9 l e9 (gx_rm 0) s m9 av.toArray below meth C9 H locs 0 0 (gq_Qi below av s E r σ1 τ1) (F0 m9 0 ls []) := by
  have hx := S.1
  have hb := S.2.1
  unfold B_X11_lowest_0 at h
  refine lv_iconst (v := 0) hx hb dX11_lowest_0 (by decide) ?_
  refine lv_istore_n (lv' := [(1, .int 0), (0, .int x0)]) hx hb dX11_lowest_1 rfl hl (by decide) rfl (fun ls hl => ?_)
  exact h_X11_lowest_2 l S hr hlk hK N N σ τ x0 0 _ _ _ h _ _ _ hw (lv_sub hl [1, 0] rfl)
set_option maxHeartbeats 4000000 in
set_option maxRecDepth 100000 in
theorem c_X11_lowest (l : Launch) {E : gE} (N : Nat) (σ : gI) (τ : gJ) (x0 : Int32) {r : Int32} {σ1 : gI} {τ1 : gJ} (h : B_X11_lowest_0 N σ τ x0 = some (r, σ1, τ1)) : gx_Mi l yX11_lowest cX11_lowest 2 (some .int) 0 gx_tb E σ τ [.int x0] (gq_p r σ1 τ1) := by
  refine gx_bi (by decide +kernel) (Nat.le_of_ble_eq_true rfl) ?_
  intro P9 e9 s m9 below meth C9 S hr hlk hK hw ls hl
  have hl : lv_has ls 2 [(0, .int x0)] := hl
  exact b_X11_lowest_0 l S hr hlk hK N σ τ x0 h hw hl
/-! X11_lost -/
def C_X11_lost_27 (N : Nat) (rec_27 : gI → gJ → Int32 → Int32 → Option (Int32 × gI × gJ)) (σ : gI) (τ : gJ) (x1 : Int32) (x3 : Int32) : Option (Int32 × gI × gJ) := if x1 < x3 then (some ((-2), σ, τ)) else (bd (B_X6_onWay_0 N 171 σ τ) fun r_2 σ_2 τ_2 => if r_2 = 0 then (some ((-2), σ_2, τ_2)) else (bd (B_X1_pass_0 N 171 σ_2 τ_2) fun _ σ_4 τ_4 => nm ((σ_4 171 10) &&& ((σ_4 30 10) ^^^ (-1))) fun v_5 => if v_5 = 0 then (nm (x3 + 1) fun v_7 => rec_27 σ_4 τ_4 x1 v_7) else (bd (B_X11_lowest_0 N σ_4 τ_4 v_5) fun r_8 σ_8 τ_8 => bd (B_X6_spotOf_0 N 171 σ_8 τ_8 r_8) fun r_9 σ_9 τ_9 => bd (B_X4_tell__0 N σ_9 τ_9 x3.toInt64 r_9.toInt64) fun _ σ_10 τ_10 => some (r_8, σ_10, τ_10))))
def H_X11_lost_27 (N : Nat) : Nat → gI → gJ → Int32 → Int32 → Option (Int32 × gI × gJ) := itn (fun rec_27 => C_X11_lost_27 N rec_27) (fun _ _ _ _ => none)
def B_X11_lost_0 (N : Nat) (σ : gI) (τ : gJ) (x1 : Int32) : Option (Int32 × gI × gJ) := bd (B_X11_isAhead_0 N σ τ x1) fun r_1 σ_1 τ_1 => if r_1 = 0 then (some ((-1), σ_1, τ_1)) else (bd (B_X6_copy_0 N 171 30 σ_1 τ_1) fun _ σ_3 τ_3 => H_X11_lost_27 N N σ_3 τ_3 x1 1)
set_option maxHeartbeats 4000000 in
set_option maxRecDepth 100000 in
theorem k_X11_lost_27 (l : Launch) (S : CallFix P9 m9 C9 cX11_lost 6 s av.toArray gx_G RX11) (hr : meth.sig.returnType = (some .int)) (hlk : meth.locks = false) (hK : gx_K E s) (N : Nat) (rec_27 : gI → gJ → Int32 → Int32 → Option (Int32 × gI × gJ)) (hrec_27 : ∀ (σ : gI) (τ : gJ) (x1 : Int32) (x3 : Int32) (r : Int32) (σ1 : gI) (τ1 : gJ) (H : Heap) (locs : List Loc) (ls : Array Slot), rec_27 σ τ x1 x3 = some (r, σ1, τ1) → gx_W gx_tb gx_tb.length E s σ τ H locs → lv_has ls 6 [(0, .ref (E.2.2 + 0)), (1, .int x1), (2, .ref (E.2.2 + 171)), (3, .int x3)] → W P9 l e9 (gx_rm 4) s m9 av.toArray below meth C9 H locs 0 0 (gq_Qi below av s E r σ1 τ1) (F0 m9 27 ls [])) (σ : gI) (τ : gJ) (x1 : Int32) (x3 : Int32) {r : Int32} {σ1 : gI} {τ1 : gJ} (h : C_X11_lost_27 N rec_27 σ τ x1 x3 = some (r, σ1, τ1)) {H : Heap} {locs : List Loc} {ls : Array Slot} (hw : gx_W gx_tb gx_tb.length E s σ τ H locs) (hl : lv_has ls 6 [(0, .ref (E.2.2 + 0)), (1, .int x1), (2, .ref (E.2.2 + 171)), (3, .int x3)]) : W P9 l e9 (gx_rm 4) s m9 av.toArray below meth C9 H locs 0 0 (gq_Qi below av s E r σ1 τ1) (F0 m9 27 ls []) := by
  have hx := S.1
  have hb := S.2.1
  unfold C_X11_lost_27 at h
  refine lv_iload_n hx hb dX11_lost_27 rfl (lv_at hl 3 rfl) ?_
  refine lv_iload_n hx hb dX11_lost_28 rfl (lv_at hl 1 rfl) ?_
  refine lv_icmp_gt (tgt := 100) hx hb dX11_lost_29 (by decide) (fun c_1 => ?_) (fun c_1 => ?_)
  · rw [if_pos c_1] at h
    refine lv_bipush (v := (-2)) hx hb dX11_lost_100 (by decide) ?_
    obtain ⟨rfl, rfl, rfl⟩ := sm_inj h
    exact gx_ri (post := gq_p (-2) σ τ) (v := (-2)) S hr hlk hw rfl dX11_lost_102 ⟨rfl, rfl, rfl⟩
  · rw [if_neg c_1] at h
    refine lv_aload_n hx hb dX11_lost_32 rfl (lv_at hl 2 rfl) ?_
    obtain ⟨r_2, σ_2, τ_2, q_2, h⟩ := bd_some h
    refine gx_cVi (As := []) (rest := []) S hK gx_ok hw (c_X6_onWay l (E := E) N 171 is_171 σ τ q_2) cw_X11_166 t_171 cl_7 ⟨Nat.le_of_ble_eq_true rfl, Nat.le_of_ble_eq_true rfl⟩ rfl hl.1 rfl (Nat.le_of_ble_eq_true rfl) ⟨Nat.le_of_ble_eq_true rfl, Nat.le_of_ble_eq_true rfl⟩ dX11_lost_33 (fun r9 σ9 τ9 H locs hp hw => ?_)
    obtain ⟨rfl, rfl, rfl⟩ := hp
    refine lv_if_eq (tgt := 100) hx hb dX11_lost_36 (by decide) (fun c_3 => ?_) (fun c_3 => ?_)
    · rw [if_pos c_3] at h
      refine lv_bipush (v := (-2)) hx hb dX11_lost_100 (by decide) ?_
      obtain ⟨rfl, rfl, rfl⟩ := sm_inj h
      exact gx_ri (post := gq_p (-2) σ_2 τ_2) (v := (-2)) S hr hlk hw rfl dX11_lost_102 ⟨rfl, rfl, rfl⟩
    · rw [if_neg c_3] at h
      refine lv_aload_n hx hb dX11_lost_39 rfl (lv_at hl 0 rfl) ?_
      refine gx_getr (j := 158) S hK hw t_0 cl_12 14 (by decide) rfl mw_461 rfl dX11_lost_40 ?_
      refine lv_aload_n hx hb dX11_lost_43 rfl (lv_at hl 2 rfl) ?_
      obtain ⟨u_4, σ_4, τ_4, q_4, h⟩ := bd_some h
      refine gx_cVv (As := [.ref (E.2.2 + 171)]) (rest := []) S hK gx_ok hw (c_X1_pass l (E := E) N 171 is_171 σ_2 τ_2 q_4) cw_X11_266 t_158 cl_2 ⟨Nat.le_of_ble_eq_true rfl, Nat.le_of_ble_eq_true rfl⟩ rfl hl.1 rfl (Nat.le_of_ble_eq_true rfl) ⟨Nat.le_of_ble_eq_true rfl, Nat.le_of_ble_eq_true rfl⟩ dX11_lost_44 (fun σ9 τ9 H locs hp hw => ?_)
      obtain ⟨rfl, rfl⟩ := hp
      refine lv_aload_n hx hb dX11_lost_47 rfl (lv_at hl 2 rfl) ?_
      refine gx_get S hK hw t_171 cl_7 10 (by decide) rfl mw_286 rfl dX11_lost_48 ?_
      refine lv_aload_n hx hb dX11_lost_51 rfl (lv_at hl 0 rfl) ?_
      refine gx_getr (j := 30) S hK hw t_0 cl_12 7 (by decide) rfl mw_454 rfl dX11_lost_52 ?_
      refine gx_get S hK hw t_30 cl_7 10 (by decide) rfl mw_286 rfl dX11_lost_55 ?_
      refine lv_iconst (v := (-1)) hx hb dX11_lost_58 (by decide) ?_
      refine lv_ixor hx hb dX11_lost_59 ?_
      refine lv_iand hx hb dX11_lost_60 ?_
      refine lv_istore (lv' := [(4, .int ((σ_4 171 10) &&& ((σ_4 30 10) ^^^ (-1)))), (0, .ref (E.2.2 + 0)), (1, .int x1), (2, .ref (E.2.2 + 171)), (3, .int x3)]) hx hb dX11_lost_61 hl (by decide) rfl (fun ls hl => ?_)
      obtain ⟨v_5, e_5, h⟩ := nm_some h
      have hl : lv_has ls 6 [(4, .int v_5), (0, .ref (E.2.2 + 0)), (1, .int x1), (2, .ref (E.2.2 + 171)), (3, .int x3)] := by rw [e_5]; exact hl
      refine lv_iload hx hb dX11_lost_63 (lv_at hl 0 rfl) ?_
      refine lv_if_eq (tgt := 94) hx hb dX11_lost_65 (by decide) (fun c_6 => ?_) (fun c_6 => ?_)
      · rw [if_pos c_6] at h
        refine lv_iinc (v := x3 + 1) (lv' := [(3, .int (x3 + 1)), (4, .int v_5), (0, .ref (E.2.2 + 0)), (1, .int x1), (2, .ref (E.2.2 + 171))]) hx hb dX11_lost_94 hl (k := 4) rfl rfl (by decide) rfl (fun ls hl => ?_)
        obtain ⟨v_7, e_7, h⟩ := nm_some h
        have hl : lv_has ls 6 [(3, .int v_7), (4, .int v_5), (0, .ref (E.2.2 + 0)), (1, .int x1), (2, .ref (E.2.2 + 171))] := by rw [e_7]; exact hl
        refine lv_goto (tgt := 27) hx hb dX11_lost_97 (by decide) ?_
        exact hrec_27 σ_4 τ_4 x1 v_7 _ _ _ _ _ _ h hw (lv_sub hl [2, 3, 4, 0] rfl)
      · rw [if_neg c_6] at h
        refine lv_iload hx hb dX11_lost_68 (lv_at hl 0 rfl) ?_
        obtain ⟨r_8, σ_8, τ_8, q_8, h⟩ := bd_some h
        refine gx_cSi (As := [.int v_5]) (rest := []) S hK gx_ok hw (c_X11_lowest l (E := E) N σ_4 τ_4 v_5 q_8) cw_X11_310 ⟨Nat.le_of_ble_eq_true rfl, Nat.le_of_ble_eq_true rfl⟩ rfl hl.1 rfl (Nat.le_of_ble_eq_true rfl) ⟨Nat.le_of_ble_eq_true rfl, Nat.le_of_ble_eq_true rfl⟩ dX11_lost_70 (fun r9 σ9 τ9 H locs hp hw => ?_)
        obtain ⟨rfl, rfl, rfl⟩ := hp
        refine lv_istore (lv' := [(5, .int r_8), (4, .int v_5), (0, .ref (E.2.2 + 0)), (1, .int x1), (2, .ref (E.2.2 + 171)), (3, .int x3)]) hx hb dX11_lost_73 hl (by decide) rfl (fun ls hl => ?_)
        refine lv_aload_n hx hb dX11_lost_75 rfl (lv_at hl 2 rfl) ?_
        refine gx_getr (j := 156) S hK hw t_0 cl_12 13 (by decide) rfl mw_460 rfl dX11_lost_76 ?_
        refine lv_iload_n hx hb dX11_lost_79 rfl (lv_at hl 5 rfl) ?_
        refine lv_i2l (v := x3.toInt64) hx hb dX11_lost_80 rfl ?_
        refine lv_aload_n hx hb dX11_lost_81 rfl (lv_at hl 4 rfl) ?_
        refine lv_iload hx hb dX11_lost_82 (lv_at hl 0 rfl) ?_
        obtain ⟨r_9, σ_9, τ_9, q_9, h⟩ := bd_some h
        refine gx_cVi (As := [.int r_8]) (rest := [.long x3.toInt64, .ref (E.2.2 + 156)]) S hK gx_ok hw (c_X6_spotOf l (E := E) N 171 is_171 σ_8 τ_8 r_8 q_9) cw_X11_175 t_171 cl_7 ⟨Nat.le_of_ble_eq_true rfl, Nat.le_of_ble_eq_true rfl⟩ rfl hl.1 rfl (Nat.le_of_ble_eq_true rfl) ⟨Nat.le_of_ble_eq_true rfl, Nat.le_of_ble_eq_true rfl⟩ dX11_lost_84 (fun r9 σ9 τ9 H locs hp hw => ?_)
        obtain ⟨rfl, rfl, rfl⟩ := hp
        refine lv_i2l (v := r_9.toInt64) hx hb dX11_lost_87 rfl ?_
        obtain ⟨u_10, σ_10, τ_10, q_10, h⟩ := bd_some h
        refine gx_cVv (As := [.long x3.toInt64, .long r_9.toInt64]) (rest := []) S hK gx_ok hw (c_X4_tell_ l (E := E) N σ_9 τ_9 x3.toInt64 r_9.toInt64 q_10) cw_X11_257 t_156 cl_5 ⟨Nat.le_of_ble_eq_true rfl, Nat.le_of_ble_eq_true rfl⟩ rfl hl.1 rfl (Nat.le_of_ble_eq_true rfl) ⟨Nat.le_of_ble_eq_true rfl, Nat.le_of_ble_eq_true rfl⟩ dX11_lost_88 (fun σ9 τ9 H locs hp hw => ?_)
        obtain ⟨rfl, rfl⟩ := hp
        refine lv_iload hx hb dX11_lost_91 (lv_at hl 0 rfl) ?_
        obtain ⟨rfl, rfl, rfl⟩ := sm_inj h
        exact gx_ri (post := gq_p r_8 σ_10 τ_10) (v := r_8) S hr hlk hw rfl dX11_lost_93 ⟨rfl, rfl, rfl⟩
set_option maxHeartbeats 4000000 in
set_option maxRecDepth 100000 in
theorem h_X11_lost_27 (l : Launch) (S : CallFix P9 m9 C9 cX11_lost 6 s av.toArray gx_G RX11) (hr : meth.sig.returnType = (some .int)) (hlk : meth.locks = false) (hK : gx_K E s) (N : Nat) : ∀ (n : Nat) (σ : gI) (τ : gJ) (x1 : Int32) (x3 : Int32) (r : Int32) (σ1 : gI) (τ1 : gJ), H_X11_lost_27 N n σ τ x1 x3 = some (r, σ1, τ1) → ∀ (H : Heap) (locs : List Loc) (ls : Array Slot), gx_W gx_tb gx_tb.length E s σ τ H locs → lv_has ls 6 [(0, .ref (E.2.2 + 0)), (1, .int x1), (2, .ref (E.2.2 + 171)), (3, .int x3)] → W P9 l e9 (gx_rm 4) s m9 av.toArray below meth C9 H locs 0 0 (gq_Qi below av s E r σ1 τ1) (F0 m9 27 ls []) := by
  intro n
  induction n with
  | zero => intro σ τ x1 x3 r σ1 τ1 h; cases h
  | succ n ih =>
    intro σ τ x1 x3 r σ1 τ1 h H locs ls hw hl
    exact k_X11_lost_27 l S hr hlk hK N (H_X11_lost_27 N n) (fun σ τ x1 x3 r σ1 τ1 H locs ls h hw hl => ih σ τ x1 x3 r σ1 τ1 h H locs ls hw hl) σ τ x1 x3 h hw hl
set_option maxHeartbeats 4000000 in
set_option maxRecDepth 100000 in
theorem b_X11_lost_0 (l : Launch) (S : CallFix P9 m9 C9 cX11_lost 6 s av.toArray gx_G RX11) (hr : meth.sig.returnType = (some .int)) (hlk : meth.locks = false) (hK : gx_K E s) (N : Nat) (σ : gI) (τ : gJ) (x1 : Int32) {r : Int32} {σ1 : gI} {τ1 : gJ} (h : B_X11_lost_0 N σ τ x1 = some (r, σ1, τ1)) {H : Heap} {locs : List Loc} {ls : Array Slot} (hw : gx_W gx_tb gx_tb.length E s σ τ H locs) (hl : lv_has ls 6 [(0, .ref (E.2.2 + 0)), (1, .int x1)]) : W P9 l e9 (gx_rm 4) s m9 av.toArray below meth C9 H locs 0 0 (gq_Qi below av s E r σ1 τ1) (F0 m9 0 ls []) := by
  have hx := S.1
  have hb := S.2.1
  unfold B_X11_lost_0 at h
  refine lv_iload_n hx hb dX11_lost_0 rfl (lv_at hl 1 rfl) ?_
  obtain ⟨r_1, σ_1, τ_1, q_1, h⟩ := bd_some h
  refine gx_cSi (As := [.int x1]) (rest := []) S hK gx_ok hw (c_X11_isAhead l (E := E) N σ τ x1 q_1) cw_X11_290 ⟨Nat.le_of_ble_eq_true rfl, Nat.le_of_ble_eq_true rfl⟩ rfl hl.1 rfl (Nat.le_of_ble_eq_true rfl) ⟨Nat.le_of_ble_eq_true rfl, Nat.le_of_ble_eq_true rfl⟩ dX11_lost_1 (fun r9 σ9 τ9 H locs hp hw => ?_)
  obtain ⟨rfl, rfl, rfl⟩ := hp
  refine lv_if_ne (tgt := 9) hx hb dX11_lost_4 (by decide) (fun c_2 => ?_) (fun c_2 => ?_)
  · rw [if_neg c_2] at h
    refine lv_aload_n hx hb dX11_lost_9 rfl (lv_at hl 0 rfl) ?_
    refine gx_getr (j := 160) S hK hw t_0 cl_12 15 (by decide) rfl mw_462 rfl dX11_lost_10 ?_
    refine gx_getr (j := 171) S hK hw t_160 cl_10 8 (by decide) rfl mw_426 rfl dX11_lost_13 ?_
    refine lv_astore_n (lv' := [(2, .ref (E.2.2 + 171)), (0, .ref (E.2.2 + 0)), (1, .int x1)]) hx hb dX11_lost_16 rfl hl (by decide) rfl (fun ls hl => ?_)
    refine lv_aload_n hx hb dX11_lost_17 rfl (lv_at hl 0 rfl) ?_
    refine lv_aload_n hx hb dX11_lost_18 rfl (lv_at hl 1 rfl) ?_
    refine gx_getr (j := 30) S hK hw t_0 cl_12 7 (by decide) rfl mw_454 rfl dX11_lost_19 ?_
    obtain ⟨u_3, σ_3, τ_3, q_3, h⟩ := bd_some h
    refine gx_cVv (As := [.ref (E.2.2 + 30)]) (rest := []) S hK gx_ok hw (c_X6_copy l (E := E) N 171 30 is_171 is_30 σ_1 τ_1 q_3) cw_X11_270 t_171 cl_7 ⟨Nat.le_of_ble_eq_true rfl, Nat.le_of_ble_eq_true rfl⟩ rfl hl.1 rfl (Nat.le_of_ble_eq_true rfl) ⟨Nat.le_of_ble_eq_true rfl, Nat.le_of_ble_eq_true rfl⟩ dX11_lost_22 (fun σ9 τ9 H locs hp hw => ?_)
    obtain ⟨rfl, rfl⟩ := hp
    refine lv_iconst (v := 1) hx hb dX11_lost_25 (by decide) ?_
    refine lv_istore_n (lv' := [(3, .int 1), (2, .ref (E.2.2 + 171)), (0, .ref (E.2.2 + 0)), (1, .int x1)]) hx hb dX11_lost_26 rfl hl (by decide) rfl (fun ls hl => ?_)
    exact h_X11_lost_27 l S hr hlk hK N N σ_3 τ_3 x1 1 _ _ _ h _ _ _ hw (lv_sub hl [2, 3, 1, 0] rfl)
  · rw [if_pos c_2] at h
    refine lv_iconst (v := (-1)) hx hb dX11_lost_7 (by decide) ?_
    obtain ⟨rfl, rfl, rfl⟩ := sm_inj h
    exact gx_ri (post := gq_p (-1) σ_1 τ_1) (v := (-1)) S hr hlk hw rfl dX11_lost_8 ⟨rfl, rfl, rfl⟩
set_option maxHeartbeats 4000000 in
set_option maxRecDepth 100000 in
theorem c_X11_lost (l : Launch) {E : gE} (N : Nat) (σ : gI) (τ : gJ) (x1 : Int32) {r : Int32} {σ1 : gI} {τ1 : gJ} (h : B_X11_lost_0 N σ τ x1 = some (r, σ1, τ1)) : gx_Mi l yX11_lost cX11_lost 6 (some .int) 4 gx_tb E σ τ [.ref (E.2.2 + 0), .int x1] (gq_p r σ1 τ1) := by
  refine gx_bi (by decide +kernel) (Nat.le_of_ble_eq_true rfl) ?_
  intro P9 e9 s m9 below meth C9 S hr hlk hK hw ls hl
  have hl : lv_has ls 6 [(0, .ref (E.2.2 + 0)), (1, .int x1)] := hl
  exact b_X11_lost_0 l S hr hlk hK N σ τ x1 h hw hl
/-! X4_tell__ -/
def B_X4_tell___0 (N : Nat) (σ : gI) (τ : gJ) (x1 : Int64) (x3 : Int64) (x5 : Int64) : Option (Unit × gI × gJ) := nm (upJ τ 157 0 x1) fun τ_1 => nm (upJ τ_1 157 1 x3) fun τ_2 => nm (upJ τ_2 157 2 x5) fun τ_3 => nm (up2 σ 156 1 3) fun σ_4 => some ((), σ_4, τ_3)
set_option maxHeartbeats 4000000 in
set_option maxRecDepth 100000 in
theorem b_X4_tell___0 (l : Launch) (S : CallFix P9 m9 C9 cX4_tell__ 7 s av.toArray gx_G RX4) (hr : meth.sig.returnType = none) (hlk : meth.locks = false) (hK : gx_K E s) (N : Nat) (σ : gI) (τ : gJ) (x1 : Int64) (x3 : Int64) (x5 : Int64) {r : Unit} {σ1 : gI} {τ1 : gJ} (h : B_X4_tell___0 N σ τ x1 x3 x5 = some (r, σ1, τ1)) {H : Heap} {locs : List Loc} {ls : Array Slot} (hw : gx_W gx_tb gx_tb.length E s σ τ H locs) (hl : lv_has ls 7 [(0, .ref (E.2.2 + 156)), (1, .long x1), (3, .long x3), (5, .long x5)]) : W P9 l e9 (gx_rm 0) s m9 av.toArray below meth C9 H locs 0 0 (gq_Qv below av s E σ1 τ1) (F0 m9 0 ls []) := by
  have hx := S.1
  have hb := S.2.1
  unfold B_X4_tell___0 at h
  refine lv_aload_n hx hb dX4_tell___0 rfl (lv_at hl 0 rfl) ?_
  refine gx_getr (j := 157) S hK hw t_156 cl_5 0 (by decide) rfl mw_356 rfl dX4_tell___1 ?_
  refine lv_iconst (v := 0) hx hb dX4_tell___4 (by decide) ?_
  refine lv_lload_n hx hb dX4_tell___5 rfl (lv_at hl 1 rfl) ?_
  refine gx_last S hK gx_ok hw t_157 0 rfl (gx_in rfl (by decide) (by decide)) dX4_tell___6 (fun H locs hw => ?_)
  obtain ⟨τ_1, e_1, h⟩ := nm_some h
  rw [← e_1] at hw
  refine lv_aload_n hx hb dX4_tell___7 rfl (lv_at hl 0 rfl) ?_
  refine gx_getr (j := 157) S hK hw t_156 cl_5 0 (by decide) rfl mw_356 rfl dX4_tell___8 ?_
  refine lv_iconst (v := 1) hx hb dX4_tell___11 (by decide) ?_
  refine lv_lload_n hx hb dX4_tell___12 rfl (lv_at hl 2 rfl) ?_
  refine gx_last S hK gx_ok hw t_157 1 rfl (gx_in rfl (by decide) (by decide)) dX4_tell___13 (fun H locs hw => ?_)
  obtain ⟨τ_2, e_2, h⟩ := nm_some h
  rw [← e_2] at hw
  refine lv_aload_n hx hb dX4_tell___14 rfl (lv_at hl 0 rfl) ?_
  refine gx_getr (j := 157) S hK hw t_156 cl_5 0 (by decide) rfl mw_356 rfl dX4_tell___15 ?_
  refine lv_iconst (v := 2) hx hb dX4_tell___18 (by decide) ?_
  refine lv_lload hx hb dX4_tell___19 (lv_at hl 3 rfl) ?_
  refine gx_last S hK gx_ok hw t_157 2 rfl (gx_in rfl (by decide) (by decide)) dX4_tell___21 (fun H locs hw => ?_)
  obtain ⟨τ_3, e_3, h⟩ := nm_some h
  rw [← e_3] at hw
  refine lv_aload_n hx hb dX4_tell___22 rfl (lv_at hl 0 rfl) ?_
  refine lv_iconst (v := 3) hx hb dX4_tell___23 (by decide) ?_
  refine gx_put S hK gx_ok hw t_156 cl_5 1 (by decide) rfl mw_357 rfl rfl (ty := .int) (v := 3) (by decide +kernel) rfl rfl dX4_tell___24 (fun H locs hw => ?_)
  obtain ⟨σ_4, e_4, h⟩ := nm_some h
  rw [← e_4] at hw
  obtain ⟨-, rfl, rfl⟩ := sm_inj h
  exact gx_rv (post := gq_v σ_4 τ_3) S hr hlk hw dX4_tell___27 ⟨rfl, rfl⟩
set_option maxHeartbeats 4000000 in
set_option maxRecDepth 100000 in
theorem c_X4_tell__ (l : Launch) {E : gE} (N : Nat) (σ : gI) (τ : gJ) (x1 : Int64) (x3 : Int64) (x5 : Int64) {r : Unit} {σ1 : gI} {τ1 : gJ} (h : B_X4_tell___0 N σ τ x1 x3 x5 = some (r, σ1, τ1)) : gx_Mv l yX4_tell__ cX4_tell__ 7 none 0 gx_tb E σ τ [.ref (E.2.2 + 156), .long x1, .long x3, .long x5] (gq_v σ1 τ1) := by
  refine gx_bv (by decide +kernel) (Nat.le_of_ble_eq_true rfl) ?_
  intro P9 e9 s m9 below meth C9 S hr hlk hK hw ls hl
  have hl : lv_has ls 7 [(0, .ref (E.2.2 + 156)), (1, .long x1), (3, .long x3), (5, .long x5)] := hl
  exact b_X4_tell___0 l S hr hlk hK N σ τ x1 x3 x5 h hw hl
/-! X11_maps -/
def B_X11_maps_69 (N : Nat) (rec_31 : gI → gJ → Int32 → Int32 → Int32 → Int32 → Int32 → Int32 → Option (Int32 × gI × gJ)) (σ : gI) (τ : gJ) (x1 : Int32) (x3 : Int32) (x4 : Int32) (x5 : Int32) (x6 : Int32) (y0 : Int32) : Option (Int32 × gI × gJ) := nm (x3 &&& x5) fun v_1 => nm (x4 &&& (x5 ^^^ (-1))) fun v_2 => bd (B_X8_nextSet_0 N σ τ x5) fun r_3 σ_3 τ_3 => nm (x6 + 1) fun v_4 => rec_31 σ_3 τ_3 x1 y0 v_1 v_2 r_3 v_4
def C_X11_maps_31 (N : Nat) (rec_31 : gI → gJ → Int32 → Int32 → Int32 → Int32 → Int32 → Int32 → Option (Int32 × gI × gJ)) (σ : gI) (τ : gJ) (x1 : Int32) (x2 : Int32) (x3 : Int32) (x4 : Int32) (x5 : Int32) (x6 : Int32) : Option (Int32 × gI × gJ) := if σ 3 8 ≤ x6 then (bd (B_X4_tell___0 N σ τ x2.toInt64 x3.toInt64 x4.toInt64) fun _ σ_2 τ_2 => some (x1, σ_2, τ_2)) else (bd (B_X9_fits_0 N σ τ x5) fun r_3 σ_3 τ_3 => if r_3 = 0 then (bd (B_X8_nextSet_0 N σ_3 τ_3 x5) fun r_5 σ_5 τ_5 => nm (x6 + 1) fun v_6 => rec_31 σ_5 τ_5 x1 x2 x3 x4 r_5 v_6) else (nm (x1 + 1) fun v_7 => if x2 = (-1) then (B_X11_maps_69 N rec_31 σ_3 τ_3 v_7 x3 x4 x5 x6 x5) else (B_X11_maps_69 N rec_31 σ_3 τ_3 v_7 x3 x4 x5 x6 x2)))
def H_X11_maps_31 (N : Nat) : Nat → gI → gJ → Int32 → Int32 → Int32 → Int32 → Int32 → Int32 → Option (Int32 × gI × gJ) := itn (fun rec_31 => C_X11_maps_31 N rec_31) (fun _ _ _ _ _ _ _ _ => none)
def B_X11_maps_0 (N : Nat) (σ : gI) (τ : gJ) : Option (Int32 × gI × gJ) := bd (B_X11_findFits_0 N σ τ) fun _ σ_1 τ_1 => nm (σ_1 3 7) fun v_2 => nm (σ_1 3 7) fun v_3 => H_X11_maps_31 N N σ_1 τ_1 0 (-1) v_2 v_3 0 0
set_option maxHeartbeats 4000000 in
set_option maxRecDepth 100000 in
theorem b_X11_maps_69 (l : Launch) (S : CallFix P9 m9 C9 cX11_maps 7 s av.toArray gx_G RX11) (hr : meth.sig.returnType = (some .int)) (hlk : meth.locks = false) (hK : gx_K E s) (N : Nat) (rec_31 : gI → gJ → Int32 → Int32 → Int32 → Int32 → Int32 → Int32 → Option (Int32 × gI × gJ)) (hrec_31 : ∀ (σ : gI) (τ : gJ) (x1 : Int32) (x2 : Int32) (x3 : Int32) (x4 : Int32) (x5 : Int32) (x6 : Int32) (r : Int32) (σ1 : gI) (τ1 : gJ) (H : Heap) (locs : List Loc) (ls : Array Slot), rec_31 σ τ x1 x2 x3 x4 x5 x6 = some (r, σ1, τ1) → gx_W gx_tb gx_tb.length E s σ τ H locs → lv_has ls 7 [(0, .ref (E.2.2 + 0)), (1, .int x1), (2, .int x2), (3, .int x3), (4, .int x4), (5, .int x5), (6, .int x6)] → W P9 l e9 (gx_rm 7) s m9 av.toArray below meth C9 H locs 0 0 (gq_Qi below av s E r σ1 τ1) (F0 m9 31 ls [])) (σ : gI) (τ : gJ) (x1 : Int32) (x3 : Int32) (x4 : Int32) (x5 : Int32) (x6 : Int32) (y0 : Int32) {r : Int32} {σ1 : gI} {τ1 : gJ} (h : B_X11_maps_69 N rec_31 σ τ x1 x3 x4 x5 x6 y0 = some (r, σ1, τ1)) {H : Heap} {locs : List Loc} {ls : Array Slot} (hw : gx_W gx_tb gx_tb.length E s σ τ H locs) (hl : lv_has ls 7 [(0, .ref (E.2.2 + 0)), (1, .int x1), (3, .int x3), (4, .int x4), (5, .int x5), (6, .int x6)]) : W P9 l e9 (gx_rm 7) s m9 av.toArray below meth C9 H locs 0 0 (gq_Qi below av s E r σ1 τ1) (F0 m9 69 ls [.int y0]) := by
  have hx := S.1
  have hb := S.2.1
  unfold B_X11_maps_69 at h
  refine lv_istore_n (lv' := [(2, .int y0), (0, .ref (E.2.2 + 0)), (1, .int x1), (3, .int x3), (4, .int x4), (5, .int x5), (6, .int x6)]) hx hb dX11_maps_69 rfl hl (by decide) rfl (fun ls hl => ?_)
  refine lv_iload_n hx hb dX11_maps_70 rfl (lv_at hl 3 rfl) ?_
  refine lv_iload hx hb dX11_maps_71 (lv_at hl 5 rfl) ?_
  refine lv_iand hx hb dX11_maps_73 ?_
  refine lv_istore_n (lv' := [(3, .int (x3 &&& x5)), (2, .int y0), (0, .ref (E.2.2 + 0)), (1, .int x1), (4, .int x4), (5, .int x5), (6, .int x6)]) hx hb dX11_maps_74 rfl hl (by decide) rfl (fun ls hl => ?_)
  obtain ⟨v_1, e_1, h⟩ := nm_some h
  have hl : lv_has ls 7 [(3, .int v_1), (2, .int y0), (0, .ref (E.2.2 + 0)), (1, .int x1), (4, .int x4), (5, .int x5), (6, .int x6)] := by rw [e_1]; exact hl
  refine lv_iload hx hb dX11_maps_75 (lv_at hl 4 rfl) ?_
  refine lv_iload hx hb dX11_maps_77 (lv_at hl 5 rfl) ?_
  refine lv_iconst (v := (-1)) hx hb dX11_maps_79 (by decide) ?_
  refine lv_ixor hx hb dX11_maps_80 ?_
  refine lv_iand hx hb dX11_maps_81 ?_
  refine lv_istore (lv' := [(4, .int (x4 &&& (x5 ^^^ (-1)))), (3, .int v_1), (2, .int y0), (0, .ref (E.2.2 + 0)), (1, .int x1), (5, .int x5), (6, .int x6)]) hx hb dX11_maps_82 hl (by decide) rfl (fun ls hl => ?_)
  obtain ⟨v_2, e_2, h⟩ := nm_some h
  have hl : lv_has ls 7 [(4, .int v_2), (3, .int v_1), (2, .int y0), (0, .ref (E.2.2 + 0)), (1, .int x1), (5, .int x5), (6, .int x6)] := by rw [e_2]; exact hl
  refine lv_aload_n hx hb dX11_maps_84 rfl (lv_at hl 3 rfl) ?_
  refine gx_getr (j := 3) S hK hw t_0 cl_12 1 (by decide) rfl mw_448 rfl dX11_maps_85 ?_
  refine lv_iload hx hb dX11_maps_88 (lv_at hl 5 rfl) ?_
  obtain ⟨r_3, σ_3, τ_3, q_3, h⟩ := bd_some h
  refine gx_cVi (As := [.int x5]) (rest := []) S hK gx_ok hw (c_X8_nextSet l (E := E) N σ τ x5 q_3) cw_X11_359 t_3 cl_9 ⟨Nat.le_of_ble_eq_true rfl, Nat.le_of_ble_eq_true rfl⟩ rfl hl.1 rfl (Nat.le_of_ble_eq_true rfl) ⟨Nat.le_of_ble_eq_true rfl, Nat.le_of_ble_eq_true rfl⟩ dX11_maps_90 (fun r9 σ9 τ9 H locs hp hw => ?_)
  obtain ⟨rfl, rfl, rfl⟩ := hp
  refine lv_istore (lv' := [(5, .int r_3), (4, .int v_2), (3, .int v_1), (2, .int y0), (0, .ref (E.2.2 + 0)), (1, .int x1), (6, .int x6)]) hx hb dX11_maps_93 hl (by decide) rfl (fun ls hl => ?_)
  refine lv_iinc (v := x6 + 1) (lv' := [(6, .int (x6 + 1)), (5, .int r_3), (4, .int v_2), (3, .int v_1), (2, .int y0), (0, .ref (E.2.2 + 0)), (1, .int x1)]) hx hb dX11_maps_95 hl (k := 6) rfl rfl (by decide) rfl (fun ls hl => ?_)
  obtain ⟨v_4, e_4, h⟩ := nm_some h
  have hl : lv_has ls 7 [(6, .int v_4), (5, .int r_3), (4, .int v_2), (3, .int v_1), (2, .int y0), (0, .ref (E.2.2 + 0)), (1, .int x1)] := by rw [e_4]; exact hl
  refine lv_goto (tgt := 31) hx hb dX11_maps_98 (by decide) ?_
  exact hrec_31 σ_3 τ_3 x1 y0 v_1 v_2 r_3 v_4 _ _ _ _ _ _ h hw (lv_sub hl [5, 6, 4, 3, 2, 1, 0] rfl)
set_option maxHeartbeats 4000000 in
set_option maxRecDepth 100000 in
theorem k_X11_maps_31 (l : Launch) (S : CallFix P9 m9 C9 cX11_maps 7 s av.toArray gx_G RX11) (hr : meth.sig.returnType = (some .int)) (hlk : meth.locks = false) (hK : gx_K E s) (N : Nat) (rec_31 : gI → gJ → Int32 → Int32 → Int32 → Int32 → Int32 → Int32 → Option (Int32 × gI × gJ)) (hrec_31 : ∀ (σ : gI) (τ : gJ) (x1 : Int32) (x2 : Int32) (x3 : Int32) (x4 : Int32) (x5 : Int32) (x6 : Int32) (r : Int32) (σ1 : gI) (τ1 : gJ) (H : Heap) (locs : List Loc) (ls : Array Slot), rec_31 σ τ x1 x2 x3 x4 x5 x6 = some (r, σ1, τ1) → gx_W gx_tb gx_tb.length E s σ τ H locs → lv_has ls 7 [(0, .ref (E.2.2 + 0)), (1, .int x1), (2, .int x2), (3, .int x3), (4, .int x4), (5, .int x5), (6, .int x6)] → W P9 l e9 (gx_rm 7) s m9 av.toArray below meth C9 H locs 0 0 (gq_Qi below av s E r σ1 τ1) (F0 m9 31 ls [])) (σ : gI) (τ : gJ) (x1 : Int32) (x2 : Int32) (x3 : Int32) (x4 : Int32) (x5 : Int32) (x6 : Int32) {r : Int32} {σ1 : gI} {τ1 : gJ} (h : C_X11_maps_31 N rec_31 σ τ x1 x2 x3 x4 x5 x6 = some (r, σ1, τ1)) {H : Heap} {locs : List Loc} {ls : Array Slot} (hw : gx_W gx_tb gx_tb.length E s σ τ H locs) (hl : lv_has ls 7 [(0, .ref (E.2.2 + 0)), (1, .int x1), (2, .int x2), (3, .int x3), (4, .int x4), (5, .int x5), (6, .int x6)]) : W P9 l e9 (gx_rm 7) s m9 av.toArray below meth C9 H locs 0 0 (gq_Qi below av s E r σ1 τ1) (F0 m9 31 ls []) := by
  have hx := S.1
  have hb := S.2.1
  unfold C_X11_maps_31 at h
  refine lv_iload hx hb dX11_maps_31 (lv_at hl 6 rfl) ?_
  refine lv_aload_n hx hb dX11_maps_33 rfl (lv_at hl 0 rfl) ?_
  refine gx_getr (j := 3) S hK hw t_0 cl_12 1 (by decide) rfl mw_448 rfl dX11_maps_34 ?_
  refine gx_get S hK hw t_3 cl_9 8 (by decide) rfl mw_161 rfl dX11_maps_37 ?_
  refine lv_icmp_ge (tgt := 101) hx hb dX11_maps_40 (by decide) (fun c_1 => ?_) (fun c_1 => ?_)
  · rw [if_pos c_1] at h
    refine lv_aload_n hx hb dX11_maps_101 rfl (lv_at hl 0 rfl) ?_
    refine gx_getr (j := 156) S hK hw t_0 cl_12 13 (by decide) rfl mw_460 rfl dX11_maps_102 ?_
    refine lv_iload_n hx hb dX11_maps_105 rfl (lv_at hl 2 rfl) ?_
    refine lv_i2l (v := x2.toInt64) hx hb dX11_maps_106 rfl ?_
    refine lv_iload_n hx hb dX11_maps_107 rfl (lv_at hl 3 rfl) ?_
    refine lv_i2l (v := x3.toInt64) hx hb dX11_maps_108 rfl ?_
    refine lv_iload hx hb dX11_maps_109 (lv_at hl 4 rfl) ?_
    refine lv_i2l (v := x4.toInt64) hx hb dX11_maps_111 rfl ?_
    obtain ⟨u_2, σ_2, τ_2, q_2, h⟩ := bd_some h
    refine gx_cVv (As := [.long x2.toInt64, .long x3.toInt64, .long x4.toInt64]) (rest := []) S hK gx_ok hw (c_X4_tell__ l (E := E) N σ τ x2.toInt64 x3.toInt64 x4.toInt64 q_2) cw_X11_300 t_156 cl_5 ⟨Nat.le_of_ble_eq_true rfl, Nat.le_of_ble_eq_true rfl⟩ rfl hl.1 rfl (Nat.le_of_ble_eq_true rfl) ⟨Nat.le_of_ble_eq_true rfl, Nat.le_of_ble_eq_true rfl⟩ dX11_maps_112 (fun σ9 τ9 H locs hp hw => ?_)
    obtain ⟨rfl, rfl⟩ := hp
    refine lv_iload_n hx hb dX11_maps_115 rfl (lv_at hl 1 rfl) ?_
    obtain ⟨rfl, rfl, rfl⟩ := sm_inj h
    exact gx_ri (post := gq_p x1 σ_2 τ_2) (v := x1) S hr hlk hw rfl dX11_maps_116 ⟨rfl, rfl, rfl⟩
  · rw [if_neg c_1] at h
    refine lv_aload_n hx hb dX11_maps_43 rfl (lv_at hl 0 rfl) ?_
    refine gx_getr (j := 160) S hK hw t_0 cl_12 15 (by decide) rfl mw_462 rfl dX11_maps_44 ?_
    refine lv_iload hx hb dX11_maps_47 (lv_at hl 5 rfl) ?_
    obtain ⟨r_3, σ_3, τ_3, q_3, h⟩ := bd_some h
    refine gx_cVi (As := [.int x5]) (rest := []) S hK gx_ok hw (c_X9_fits l (E := E) N σ τ x5 q_3) cw_X11_378 t_160 cl_10 ⟨Nat.le_of_ble_eq_true rfl, Nat.le_of_ble_eq_true rfl⟩ rfl hl.1 rfl (Nat.le_of_ble_eq_true rfl) ⟨Nat.le_of_ble_eq_true rfl, Nat.le_of_ble_eq_true rfl⟩ dX11_maps_49 (fun r9 σ9 τ9 H locs hp hw => ?_)
    obtain ⟨rfl, rfl, rfl⟩ := hp
    refine lv_if_eq (tgt := 84) hx hb dX11_maps_52 (by decide) (fun c_4 => ?_) (fun c_4 => ?_)
    · rw [if_pos c_4] at h
      refine lv_aload_n hx hb dX11_maps_84 rfl (lv_at hl 0 rfl) ?_
      refine gx_getr (j := 3) S hK hw t_0 cl_12 1 (by decide) rfl mw_448 rfl dX11_maps_85 ?_
      refine lv_iload hx hb dX11_maps_88 (lv_at hl 5 rfl) ?_
      obtain ⟨r_5, σ_5, τ_5, q_5, h⟩ := bd_some h
      refine gx_cVi (As := [.int x5]) (rest := []) S hK gx_ok hw (c_X8_nextSet l (E := E) N σ_3 τ_3 x5 q_5) cw_X11_359 t_3 cl_9 ⟨Nat.le_of_ble_eq_true rfl, Nat.le_of_ble_eq_true rfl⟩ rfl hl.1 rfl (Nat.le_of_ble_eq_true rfl) ⟨Nat.le_of_ble_eq_true rfl, Nat.le_of_ble_eq_true rfl⟩ dX11_maps_90 (fun r9 σ9 τ9 H locs hp hw => ?_)
      obtain ⟨rfl, rfl, rfl⟩ := hp
      refine lv_istore (lv' := [(5, .int r_5), (0, .ref (E.2.2 + 0)), (1, .int x1), (2, .int x2), (3, .int x3), (4, .int x4), (6, .int x6)]) hx hb dX11_maps_93 hl (by decide) rfl (fun ls hl => ?_)
      refine lv_iinc (v := x6 + 1) (lv' := [(6, .int (x6 + 1)), (5, .int r_5), (0, .ref (E.2.2 + 0)), (1, .int x1), (2, .int x2), (3, .int x3), (4, .int x4)]) hx hb dX11_maps_95 hl (k := 6) rfl rfl (by decide) rfl (fun ls hl => ?_)
      obtain ⟨v_6, e_6, h⟩ := nm_some h
      have hl : lv_has ls 7 [(6, .int v_6), (5, .int r_5), (0, .ref (E.2.2 + 0)), (1, .int x1), (2, .int x2), (3, .int x3), (4, .int x4)] := by rw [e_6]; exact hl
      refine lv_goto (tgt := 31) hx hb dX11_maps_98 (by decide) ?_
      exact hrec_31 σ_5 τ_5 x1 x2 x3 x4 r_5 v_6 _ _ _ _ _ _ h hw (lv_sub hl [2, 3, 4, 5, 6, 1, 0] rfl)
    · rw [if_neg c_4] at h
      refine lv_iinc (v := x1 + 1) (lv' := [(1, .int (x1 + 1)), (0, .ref (E.2.2 + 0)), (2, .int x2), (3, .int x3), (4, .int x4), (5, .int x5), (6, .int x6)]) hx hb dX11_maps_55 hl (k := 1) rfl rfl (by decide) rfl (fun ls hl => ?_)
      obtain ⟨v_7, e_7, h⟩ := nm_some h
      have hl : lv_has ls 7 [(1, .int v_7), (0, .ref (E.2.2 + 0)), (2, .int x2), (3, .int x3), (4, .int x4), (5, .int x5), (6, .int x6)] := by rw [e_7]; exact hl
      refine lv_iload_n hx hb dX11_maps_58 rfl (lv_at hl 2 rfl) ?_
      refine lv_iconst (v := (-1)) hx hb dX11_maps_59 (by decide) ?_
      refine lv_icmp_ne (tgt := 68) hx hb dX11_maps_60 (by decide) (fun c_8 => ?_) (fun c_8 => ?_)
      · rw [if_neg c_8] at h
        refine lv_iload_n hx hb dX11_maps_68 rfl (lv_at hl 2 rfl) ?_
        exact b_X11_maps_69 l S hr hlk hK N rec_31 hrec_31 σ_3 τ_3 v_7 x3 x4 x5 x6 x2 h hw (lv_sub hl [1, 0, 3, 4, 5, 6] rfl)
      · rw [if_pos c_8] at h
        refine lv_iload hx hb dX11_maps_63 (lv_at hl 5 rfl) ?_
        refine lv_goto (tgt := 69) hx hb dX11_maps_65 (by decide) ?_
        exact b_X11_maps_69 l S hr hlk hK N rec_31 hrec_31 σ_3 τ_3 v_7 x3 x4 x5 x6 x5 h hw (lv_sub hl [1, 0, 3, 4, 5, 6] rfl)
set_option maxHeartbeats 4000000 in
set_option maxRecDepth 100000 in
theorem h_X11_maps_31 (l : Launch) (S : CallFix P9 m9 C9 cX11_maps 7 s av.toArray gx_G RX11) (hr : meth.sig.returnType = (some .int)) (hlk : meth.locks = false) (hK : gx_K E s) (N : Nat) : ∀ (n : Nat) (σ : gI) (τ : gJ) (x1 : Int32) (x2 : Int32) (x3 : Int32) (x4 : Int32) (x5 : Int32) (x6 : Int32) (r : Int32) (σ1 : gI) (τ1 : gJ), H_X11_maps_31 N n σ τ x1 x2 x3 x4 x5 x6 = some (r, σ1, τ1) → ∀ (H : Heap) (locs : List Loc) (ls : Array Slot), gx_W gx_tb gx_tb.length E s σ τ H locs → lv_has ls 7 [(0, .ref (E.2.2 + 0)), (1, .int x1), (2, .int x2), (3, .int x3), (4, .int x4), (5, .int x5), (6, .int x6)] → W P9 l e9 (gx_rm 7) s m9 av.toArray below meth C9 H locs 0 0 (gq_Qi below av s E r σ1 τ1) (F0 m9 31 ls []) := by
  intro n
  induction n with
  | zero => intro σ τ x1 x2 x3 x4 x5 x6 r σ1 τ1 h; cases h
  | succ n ih =>
    intro σ τ x1 x2 x3 x4 x5 x6 r σ1 τ1 h H locs ls hw hl
    exact k_X11_maps_31 l S hr hlk hK N (H_X11_maps_31 N n) (fun σ τ x1 x2 x3 x4 x5 x6 r σ1 τ1 H locs ls h hw hl => ih σ τ x1 x2 x3 x4 x5 x6 r σ1 τ1 h H locs ls hw hl) σ τ x1 x2 x3 x4 x5 x6 h hw hl
set_option maxHeartbeats 4000000 in
set_option maxRecDepth 100000 in
theorem b_X11_maps_0 (l : Launch) (S : CallFix P9 m9 C9 cX11_maps 7 s av.toArray gx_G RX11) (hr : meth.sig.returnType = (some .int)) (hlk : meth.locks = false) (hK : gx_K E s) (N : Nat) (σ : gI) (τ : gJ) {r : Int32} {σ1 : gI} {τ1 : gJ} (h : B_X11_maps_0 N σ τ = some (r, σ1, τ1)) {H : Heap} {locs : List Loc} {ls : Array Slot} (hw : gx_W gx_tb gx_tb.length E s σ τ H locs) (hl : lv_has ls 7 [(0, .ref (E.2.2 + 0))]) : W P9 l e9 (gx_rm 7) s m9 av.toArray below meth C9 H locs 0 0 (gq_Qi below av s E r σ1 τ1) (F0 m9 0 ls []) := by
  have hx := S.1
  have hb := S.2.1
  unfold B_X11_maps_0 at h
  refine lv_aload_n hx hb dX11_maps_0 rfl (lv_at hl 0 rfl) ?_
  obtain ⟨u_1, σ_1, τ_1, q_1, h⟩ := bd_some h
  refine gx_cVv (As := []) (rest := []) S hK gx_ok hw (c_X11_findFits l (E := E) N σ τ q_1) cw_X11_372 t_0 cl_12 ⟨Nat.le_of_ble_eq_true rfl, Nat.le_of_ble_eq_true rfl⟩ rfl hl.1 rfl (Nat.le_of_ble_eq_true rfl) ⟨Nat.le_of_ble_eq_true rfl, Nat.le_of_ble_eq_true rfl⟩ dX11_maps_1 (fun σ9 τ9 H locs hp hw => ?_)
  obtain ⟨rfl, rfl⟩ := hp
  refine lv_iconst (v := 0) hx hb dX11_maps_4 (by decide) ?_
  refine lv_istore_n (lv' := [(1, .int 0), (0, .ref (E.2.2 + 0))]) hx hb dX11_maps_5 rfl hl (by decide) rfl (fun ls hl => ?_)
  refine lv_iconst (v := (-1)) hx hb dX11_maps_6 (by decide) ?_
  refine lv_istore_n (lv' := [(2, .int (-1)), (1, .int 0), (0, .ref (E.2.2 + 0))]) hx hb dX11_maps_7 rfl hl (by decide) rfl (fun ls hl => ?_)
  refine lv_aload_n hx hb dX11_maps_8 rfl (lv_at hl 2 rfl) ?_
  refine gx_getr (j := 3) S hK hw t_0 cl_12 1 (by decide) rfl mw_448 rfl dX11_maps_9 ?_
  refine gx_get S hK hw t_3 cl_9 7 (by decide) rfl mw_158 rfl dX11_maps_12 ?_
  refine lv_istore_n (lv' := [(3, .int (σ_1 3 7)), (2, .int (-1)), (1, .int 0), (0, .ref (E.2.2 + 0))]) hx hb dX11_maps_15 rfl hl (by decide) rfl (fun ls hl => ?_)
  obtain ⟨v_2, e_2, h⟩ := nm_some h
  have hl : lv_has ls 7 [(3, .int v_2), (2, .int (-1)), (1, .int 0), (0, .ref (E.2.2 + 0))] := by rw [e_2]; exact hl
  refine lv_aload_n hx hb dX11_maps_16 rfl (lv_at hl 3 rfl) ?_
  refine gx_getr (j := 3) S hK hw t_0 cl_12 1 (by decide) rfl mw_448 rfl dX11_maps_17 ?_
  refine gx_get S hK hw t_3 cl_9 7 (by decide) rfl mw_158 rfl dX11_maps_20 ?_
  refine lv_istore (lv' := [(4, .int (σ_1 3 7)), (3, .int v_2), (2, .int (-1)), (1, .int 0), (0, .ref (E.2.2 + 0))]) hx hb dX11_maps_23 hl (by decide) rfl (fun ls hl => ?_)
  obtain ⟨v_3, e_3, h⟩ := nm_some h
  have hl : lv_has ls 7 [(4, .int v_3), (3, .int v_2), (2, .int (-1)), (1, .int 0), (0, .ref (E.2.2 + 0))] := by rw [e_3]; exact hl
  refine lv_iconst (v := 0) hx hb dX11_maps_25 (by decide) ?_
  refine lv_istore (lv' := [(5, .int 0), (4, .int v_3), (3, .int v_2), (2, .int (-1)), (1, .int 0), (0, .ref (E.2.2 + 0))]) hx hb dX11_maps_26 hl (by decide) rfl (fun ls hl => ?_)
  refine lv_iconst (v := 0) hx hb dX11_maps_28 (by decide) ?_
  refine lv_istore (lv' := [(6, .int 0), (5, .int 0), (4, .int v_3), (3, .int v_2), (2, .int (-1)), (1, .int 0), (0, .ref (E.2.2 + 0))]) hx hb dX11_maps_29 hl (by decide) rfl (fun ls hl => ?_)
  exact h_X11_maps_31 l S hr hlk hK N N σ_1 τ_1 0 (-1) v_2 v_3 0 0 _ _ _ h _ _ _ hw (lv_sub hl [6, 5, 4, 3, 2, 1, 0] rfl)
set_option maxHeartbeats 4000000 in
set_option maxRecDepth 100000 in
theorem c_X11_maps (l : Launch) {E : gE} (N : Nat) (σ : gI) (τ : gJ) {r : Int32} {σ1 : gI} {τ1 : gJ} (h : B_X11_maps_0 N σ τ = some (r, σ1, τ1)) : gx_Mi l yX11_maps cX11_maps 7 (some .int) 7 gx_tb E σ τ [.ref (E.2.2 + 0)] (gq_p r σ1 τ1) := by
  refine gx_bi (by decide +kernel) (Nat.le_of_ble_eq_true rfl) ?_
  intro P9 e9 s m9 below meth C9 S hr hlk hK hw ls hl
  have hl : lv_has ls 7 [(0, .ref (E.2.2 + 0))] := hl
  exact b_X11_maps_0 l S hr hlk hK N σ τ h hw hl
/-! X11_marks -/
def C_X11_marks_48 (N : Nat) (rec_33 : gI → gJ → Int32 → Int32 → Int32 → Int32 → Int32 → Int32 → Int32 → Option (Int32 × gI × gJ)) (rec_48 : gI → gJ → Int32 → Int32 → Int32 → Int32 → Int32 → Int32 → Int32 → Int32 → Option (Int32 × gI × gJ)) (σ : gI) (τ : gJ) (x1 : Int32) (x2 : Int32) (x3 : Int32) (x4 : Int32) (x5 : Int32) (x6 : Int32) (x7 : Int32) (x8 : Int32) : Option (Int32 × gI × gJ) := if 10 ≤ x8 then (nm (x7 + 1) fun v_2 => rec_33 σ τ x1 x2 x3 x4 x5 x6 v_2) else (bd (B_X11_sailed_0 N σ τ x7 x1 x2 x8) fun r_3 σ_3 τ_3 => if r_3 = (-1) then (nm (x8 + 1) fun v_5 => rec_48 σ_3 τ_3 x1 x2 x3 x4 x5 x6 x7 v_5) else (bd (B_X6_trailOf_0 N 171 σ_3 τ_3 0) fun r_6 σ_6 τ_6 => if r_6 = x3 then (if x4 = 0 then (nm (x4 + 1) fun v_13 => nm (x5 ||| (1 <<< (x7 &&& 31))) fun v_14 => nm (x8 + 1) fun v_15 => rec_48 σ_6 τ_6 x1 x2 x3 v_13 v_14 x8 x7 v_15) else (nm (x4 + 1) fun v_10 => nm (x5 ||| (1 <<< (x7 &&& 31))) fun v_11 => nm (x8 + 1) fun v_12 => rec_48 σ_6 τ_6 x1 x2 x3 v_10 v_11 x6 x7 v_12)) else (nm (x8 + 1) fun v_8 => rec_48 σ_6 τ_6 x1 x2 x3 x4 x5 x6 x7 v_8)))
def H_X11_marks_48 (N : Nat) (rec_33 : gI → gJ → Int32 → Int32 → Int32 → Int32 → Int32 → Int32 → Int32 → Option (Int32 × gI × gJ)) : Nat → gI → gJ → Int32 → Int32 → Int32 → Int32 → Int32 → Int32 → Int32 → Int32 → Option (Int32 × gI × gJ) := itn (fun rec_48 => C_X11_marks_48 N rec_33 rec_48) (fun _ _ _ _ _ _ _ _ _ _ => none)
def C_X11_marks_33 (N : Nat) (rec_33 : gI → gJ → Int32 → Int32 → Int32 → Int32 → Int32 → Int32 → Int32 → Option (Int32 × gI × gJ)) (σ : gI) (τ : gJ) (x1 : Int32) (x2 : Int32) (x3 : Int32) (x4 : Int32) (x5 : Int32) (x6 : Int32) (x7 : Int32) : Option (Int32 × gI × gJ) := if σ 3 6 ≤ x7 then (if x4 = 0 then (bd (B_X4_tell_0 N σ τ 0) fun _ σ_5 τ_5 => some (x4, σ_5, τ_5)) else (bd (B_X11_lowest_0 N σ τ x5) fun r_3 σ_3 τ_3 => bd (B_X4_tell___0 N σ_3 τ_3 r_3.toInt64 x6.toInt64 x5.toInt64) fun _ σ_4 τ_4 => some (x4, σ_4, τ_4))) else (H_X11_marks_48 N rec_33 N σ τ x1 x2 x3 x4 x5 x6 x7 0)
def H_X11_marks_33 (N : Nat) : Nat → gI → gJ → Int32 → Int32 → Int32 → Int32 → Int32 → Int32 → Int32 → Option (Int32 × gI × gJ) := itn (fun rec_33 => C_X11_marks_33 N rec_33) (fun _ _ _ _ _ _ _ _ _ => none)
def B_X11_marks_0 (N : Nat) (σ : gI) (τ : gJ) (x1 : Int32) (x2 : Int32) (x3 : Int32) : Option (Int32 × gI × gJ) := bd (B_X11_isLoad_0 N σ τ x1 x2) fun r_1 σ_1 τ_1 => if r_1 = 0 then (some ((-1), σ_1, τ_1)) else (if x3 < 0 then (some ((-1), σ_1, τ_1)) else (if x3 < 4096 then (H_X11_marks_33 N N σ_1 τ_1 x1 x2 x3 0 0 (-1) 0) else (some ((-1), σ_1, τ_1))))
set_option maxHeartbeats 4000000 in
set_option maxRecDepth 100000 in
theorem k_X11_marks_48 (l : Launch) (S : CallFix P9 m9 C9 cX11_marks 10 s av.toArray gx_G RX11) (hr : meth.sig.returnType = (some .int)) (hlk : meth.locks = false) (hK : gx_K E s) (N : Nat) (rec_33 : gI → gJ → Int32 → Int32 → Int32 → Int32 → Int32 → Int32 → Int32 → Option (Int32 × gI × gJ)) (hrec_33 : ∀ (σ : gI) (τ : gJ) (x1 : Int32) (x2 : Int32) (x3 : Int32) (x4 : Int32) (x5 : Int32) (x6 : Int32) (x7 : Int32) (r : Int32) (σ1 : gI) (τ1 : gJ) (H : Heap) (locs : List Loc) (ls : Array Slot), rec_33 σ τ x1 x2 x3 x4 x5 x6 x7 = some (r, σ1, τ1) → gx_W gx_tb gx_tb.length E s σ τ H locs → lv_has ls 10 [(0, .ref (E.2.2 + 0)), (1, .int x1), (2, .int x2), (3, .int x3), (4, .int x4), (5, .int x5), (6, .int x6), (7, .int x7)] → W P9 l e9 (gx_rm 6) s m9 av.toArray below meth C9 H locs 0 0 (gq_Qi below av s E r σ1 τ1) (F0 m9 33 ls [])) (rec_48 : gI → gJ → Int32 → Int32 → Int32 → Int32 → Int32 → Int32 → Int32 → Int32 → Option (Int32 × gI × gJ)) (hrec_48 : ∀ (σ : gI) (τ : gJ) (x1 : Int32) (x2 : Int32) (x3 : Int32) (x4 : Int32) (x5 : Int32) (x6 : Int32) (x7 : Int32) (x8 : Int32) (r : Int32) (σ1 : gI) (τ1 : gJ) (H : Heap) (locs : List Loc) (ls : Array Slot), rec_48 σ τ x1 x2 x3 x4 x5 x6 x7 x8 = some (r, σ1, τ1) → gx_W gx_tb gx_tb.length E s σ τ H locs → lv_has ls 10 [(0, .ref (E.2.2 + 0)), (1, .int x1), (2, .int x2), (3, .int x3), (4, .int x4), (5, .int x5), (6, .int x6), (7, .int x7), (8, .int x8)] → W P9 l e9 (gx_rm 6) s m9 av.toArray below meth C9 H locs 0 0 (gq_Qi below av s E r σ1 τ1) (F0 m9 48 ls [])) (σ : gI) (τ : gJ) (x1 : Int32) (x2 : Int32) (x3 : Int32) (x4 : Int32) (x5 : Int32) (x6 : Int32) (x7 : Int32) (x8 : Int32) {r : Int32} {σ1 : gI} {τ1 : gJ} (h : C_X11_marks_48 N rec_33 rec_48 σ τ x1 x2 x3 x4 x5 x6 x7 x8 = some (r, σ1, τ1)) {H : Heap} {locs : List Loc} {ls : Array Slot} (hw : gx_W gx_tb gx_tb.length E s σ τ H locs) (hl : lv_has ls 10 [(0, .ref (E.2.2 + 0)), (1, .int x1), (2, .int x2), (3, .int x3), (4, .int x4), (5, .int x5), (6, .int x6), (7, .int x7), (8, .int x8)]) : W P9 l e9 (gx_rm 6) s m9 av.toArray below meth C9 H locs 0 0 (gq_Qi below av s E r σ1 τ1) (F0 m9 48 ls []) := by
  have hx := S.1
  have hb := S.2.1
  unfold C_X11_marks_48 at h
  refine lv_iload hx hb dX11_marks_48 (lv_at hl 8 rfl) ?_
  refine lv_bipush (v := 10) hx hb dX11_marks_50 (by decide) ?_
  refine lv_icmp_ge (tgt := 120) hx hb dX11_marks_52 (by decide) (fun c_1 => ?_) (fun c_1 => ?_)
  · rw [if_pos c_1] at h
    refine lv_iinc (v := x7 + 1) (lv' := [(7, .int (x7 + 1)), (0, .ref (E.2.2 + 0)), (1, .int x1), (2, .int x2), (3, .int x3), (4, .int x4), (5, .int x5), (6, .int x6), (8, .int x8)]) hx hb dX11_marks_120 hl (k := 7) rfl rfl (by decide) rfl (fun ls hl => ?_)
    obtain ⟨v_2, e_2, h⟩ := nm_some h
    have hl : lv_has ls 10 [(7, .int v_2), (0, .ref (E.2.2 + 0)), (1, .int x1), (2, .int x2), (3, .int x3), (4, .int x4), (5, .int x5), (6, .int x6), (8, .int x8)] := by rw [e_2]; exact hl
    refine lv_goto (tgt := 33) hx hb dX11_marks_123 (by decide) ?_
    exact hrec_33 σ τ x1 x2 x3 x4 x5 x6 v_2 _ _ _ _ _ _ h hw (lv_sub hl [1, 2, 3, 4, 5, 6, 7, 0] rfl)
  · rw [if_neg c_1] at h
    refine lv_aload_n hx hb dX11_marks_55 rfl (lv_at hl 0 rfl) ?_
    refine lv_iload hx hb dX11_marks_56 (lv_at hl 7 rfl) ?_
    refine lv_iload_n hx hb dX11_marks_58 rfl (lv_at hl 1 rfl) ?_
    refine lv_iload_n hx hb dX11_marks_59 rfl (lv_at hl 2 rfl) ?_
    refine lv_iload hx hb dX11_marks_60 (lv_at hl 8 rfl) ?_
    obtain ⟨r_3, σ_3, τ_3, q_3, h⟩ := bd_some h
    refine gx_cVi (As := [.int x7, .int x1, .int x2, .int x8]) (rest := []) S hK gx_ok hw (c_X11_sailed l (E := E) N σ τ x7 x1 x2 x8 q_3) cw_X11_313 t_0 cl_12 ⟨Nat.le_of_ble_eq_true rfl, Nat.le_of_ble_eq_true rfl⟩ rfl hl.1 rfl (Nat.le_of_ble_eq_true rfl) ⟨Nat.le_of_ble_eq_true rfl, Nat.le_of_ble_eq_true rfl⟩ dX11_marks_62 (fun r9 σ9 τ9 H locs hp hw => ?_)
    obtain ⟨rfl, rfl, rfl⟩ := hp
    refine lv_istore (lv' := [(9, .int r_3), (0, .ref (E.2.2 + 0)), (1, .int x1), (2, .int x2), (3, .int x3), (4, .int x4), (5, .int x5), (6, .int x6), (7, .int x7), (8, .int x8)]) hx hb dX11_marks_65 hl (by decide) rfl (fun ls hl => ?_)
    refine lv_iload hx hb dX11_marks_67 (lv_at hl 0 rfl) ?_
    refine lv_iconst (v := (-1)) hx hb dX11_marks_69 (by decide) ?_
    refine lv_icmp_eq (tgt := 114) hx hb dX11_marks_70 (by decide) (fun c_4 => ?_) (fun c_4 => ?_)
    · rw [if_pos c_4] at h
      refine lv_iinc (v := x8 + 1) (lv' := [(8, .int (x8 + 1)), (9, .int r_3), (0, .ref (E.2.2 + 0)), (1, .int x1), (2, .int x2), (3, .int x3), (4, .int x4), (5, .int x5), (6, .int x6), (7, .int x7)]) hx hb dX11_marks_114 hl (k := 9) rfl rfl (by decide) rfl (fun ls hl => ?_)
      obtain ⟨v_5, e_5, h⟩ := nm_some h
      have hl : lv_has ls 10 [(8, .int v_5), (9, .int r_3), (0, .ref (E.2.2 + 0)), (1, .int x1), (2, .int x2), (3, .int x3), (4, .int x4), (5, .int x5), (6, .int x6), (7, .int x7)] := by rw [e_5]; exact hl
      refine lv_goto (tgt := 48) hx hb dX11_marks_117 (by decide) ?_
      exact hrec_48 σ_3 τ_3 x1 x2 x3 x4 x5 x6 x7 v_5 _ _ _ _ _ _ h hw (lv_sub hl [2, 3, 4, 5, 6, 7, 8, 9, 0] rfl)
    · rw [if_neg c_4] at h
      refine lv_aload_n hx hb dX11_marks_73 rfl (lv_at hl 1 rfl) ?_
      refine gx_getr (j := 160) S hK hw t_0 cl_12 15 (by decide) rfl mw_462 rfl dX11_marks_74 ?_
      refine gx_getr (j := 171) S hK hw t_160 cl_10 8 (by decide) rfl mw_426 rfl dX11_marks_77 ?_
      refine lv_iconst (v := 0) hx hb dX11_marks_80 (by decide) ?_
      obtain ⟨r_6, σ_6, τ_6, q_6, h⟩ := bd_some h
      refine gx_cVi (As := [.int 0]) (rest := []) S hK gx_ok hw (c_X6_trailOf l (E := E) N 171 is_171 σ_3 τ_3 0 q_6) cw_X11_184 t_171 cl_7 ⟨Nat.le_of_ble_eq_true rfl, Nat.le_of_ble_eq_true rfl⟩ rfl hl.1 rfl (Nat.le_of_ble_eq_true rfl) ⟨Nat.le_of_ble_eq_true rfl, Nat.le_of_ble_eq_true rfl⟩ dX11_marks_81 (fun r9 σ9 τ9 H locs hp hw => ?_)
      obtain ⟨rfl, rfl, rfl⟩ := hp
      refine lv_iload_n hx hb dX11_marks_84 rfl (lv_at hl 4 rfl) ?_
      refine lv_icmp_ne (tgt := 114) hx hb dX11_marks_85 (by decide) (fun c_7 => ?_) (fun c_7 => ?_)
      · rw [if_neg c_7] at h
        refine lv_iinc (v := x8 + 1) (lv' := [(8, .int (x8 + 1)), (9, .int r_3), (0, .ref (E.2.2 + 0)), (1, .int x1), (2, .int x2), (3, .int x3), (4, .int x4), (5, .int x5), (6, .int x6), (7, .int x7)]) hx hb dX11_marks_114 hl (k := 9) rfl rfl (by decide) rfl (fun ls hl => ?_)
        obtain ⟨v_8, e_8, h⟩ := nm_some h
        have hl : lv_has ls 10 [(8, .int v_8), (9, .int r_3), (0, .ref (E.2.2 + 0)), (1, .int x1), (2, .int x2), (3, .int x3), (4, .int x4), (5, .int x5), (6, .int x6), (7, .int x7)] := by rw [e_8]; exact hl
        refine lv_goto (tgt := 48) hx hb dX11_marks_117 (by decide) ?_
        exact hrec_48 σ_6 τ_6 x1 x2 x3 x4 x5 x6 x7 v_8 _ _ _ _ _ _ h hw (lv_sub hl [2, 3, 4, 5, 6, 7, 8, 9, 0] rfl)
      · rw [if_pos c_7] at h
        refine lv_iload hx hb dX11_marks_88 (lv_at hl 5 rfl) ?_
        refine lv_if_ne (tgt := 98) hx hb dX11_marks_90 (by decide) (fun c_9 => ?_) (fun c_9 => ?_)
        · rw [if_neg c_9] at h
          refine lv_iload hx hb dX11_marks_98 (lv_at hl 7 rfl) ?_
          refine lv_istore (lv' := [(6, .int x6), (9, .int r_3), (0, .ref (E.2.2 + 0)), (1, .int x1), (2, .int x2), (3, .int x3), (4, .int x4), (5, .int x5), (7, .int x7), (8, .int x8)]) hx hb dX11_marks_100 hl (by decide) rfl (fun ls hl => ?_)
          refine lv_iinc (v := x4 + 1) (lv' := [(4, .int (x4 + 1)), (6, .int x6), (9, .int r_3), (0, .ref (E.2.2 + 0)), (1, .int x1), (2, .int x2), (3, .int x3), (5, .int x5), (7, .int x7), (8, .int x8)]) hx hb dX11_marks_102 hl (k := 6) rfl rfl (by decide) rfl (fun ls hl => ?_)
          obtain ⟨v_10, e_10, h⟩ := nm_some h
          have hl : lv_has ls 10 [(4, .int v_10), (6, .int x6), (9, .int r_3), (0, .ref (E.2.2 + 0)), (1, .int x1), (2, .int x2), (3, .int x3), (5, .int x5), (7, .int x7), (8, .int x8)] := by rw [e_10]; exact hl
          refine lv_iload hx hb dX11_marks_105 (lv_at hl 7 rfl) ?_
          refine lv_iconst (v := 1) hx hb dX11_marks_107 (by decide) ?_
          refine lv_iload hx hb dX11_marks_108 (lv_at hl 8 rfl) ?_
          refine lv_ishl hx hb dX11_marks_110 ?_
          refine lv_ior hx hb dX11_marks_111 ?_
          refine lv_istore (lv' := [(5, .int (x5 ||| (1 <<< (x7 &&& 31)))), (4, .int v_10), (6, .int x6), (9, .int r_3), (0, .ref (E.2.2 + 0)), (1, .int x1), (2, .int x2), (3, .int x3), (7, .int x7), (8, .int x8)]) hx hb dX11_marks_112 hl (by decide) rfl (fun ls hl => ?_)
          obtain ⟨v_11, e_11, h⟩ := nm_some h
          have hl : lv_has ls 10 [(5, .int v_11), (4, .int v_10), (6, .int x6), (9, .int r_3), (0, .ref (E.2.2 + 0)), (1, .int x1), (2, .int x2), (3, .int x3), (7, .int x7), (8, .int x8)] := by rw [e_11]; exact hl
          refine lv_iinc (v := x8 + 1) (lv' := [(8, .int (x8 + 1)), (5, .int v_11), (4, .int v_10), (6, .int x6), (9, .int r_3), (0, .ref (E.2.2 + 0)), (1, .int x1), (2, .int x2), (3, .int x3), (7, .int x7)]) hx hb dX11_marks_114 hl (k := 9) rfl rfl (by decide) rfl (fun ls hl => ?_)
          obtain ⟨v_12, e_12, h⟩ := nm_some h
          have hl : lv_has ls 10 [(8, .int v_12), (5, .int v_11), (4, .int v_10), (6, .int x6), (9, .int r_3), (0, .ref (E.2.2 + 0)), (1, .int x1), (2, .int x2), (3, .int x3), (7, .int x7)] := by rw [e_12]; exact hl
          refine lv_goto (tgt := 48) hx hb dX11_marks_117 (by decide) ?_
          exact hrec_48 σ_6 τ_6 x1 x2 x3 v_10 v_11 x6 x7 v_12 _ _ _ _ _ _ h hw (lv_sub hl [5, 6, 7, 8, 2, 1, 3, 9, 0] rfl)
        · rw [if_pos c_9] at h
          refine lv_iload hx hb dX11_marks_93 (lv_at hl 9 rfl) ?_
          refine lv_goto (tgt := 100) hx hb dX11_marks_95 (by decide) ?_
          refine lv_istore (lv' := [(6, .int x8), (9, .int r_3), (0, .ref (E.2.2 + 0)), (1, .int x1), (2, .int x2), (3, .int x3), (4, .int x4), (5, .int x5), (7, .int x7), (8, .int x8)]) hx hb dX11_marks_100 hl (by decide) rfl (fun ls hl => ?_)
          refine lv_iinc (v := x4 + 1) (lv' := [(4, .int (x4 + 1)), (6, .int x8), (9, .int r_3), (0, .ref (E.2.2 + 0)), (1, .int x1), (2, .int x2), (3, .int x3), (5, .int x5), (7, .int x7), (8, .int x8)]) hx hb dX11_marks_102 hl (k := 6) rfl rfl (by decide) rfl (fun ls hl => ?_)
          obtain ⟨v_13, e_13, h⟩ := nm_some h
          have hl : lv_has ls 10 [(4, .int v_13), (6, .int x8), (9, .int r_3), (0, .ref (E.2.2 + 0)), (1, .int x1), (2, .int x2), (3, .int x3), (5, .int x5), (7, .int x7), (8, .int x8)] := by rw [e_13]; exact hl
          refine lv_iload hx hb dX11_marks_105 (lv_at hl 7 rfl) ?_
          refine lv_iconst (v := 1) hx hb dX11_marks_107 (by decide) ?_
          refine lv_iload hx hb dX11_marks_108 (lv_at hl 8 rfl) ?_
          refine lv_ishl hx hb dX11_marks_110 ?_
          refine lv_ior hx hb dX11_marks_111 ?_
          refine lv_istore (lv' := [(5, .int (x5 ||| (1 <<< (x7 &&& 31)))), (4, .int v_13), (6, .int x8), (9, .int r_3), (0, .ref (E.2.2 + 0)), (1, .int x1), (2, .int x2), (3, .int x3), (7, .int x7), (8, .int x8)]) hx hb dX11_marks_112 hl (by decide) rfl (fun ls hl => ?_)
          obtain ⟨v_14, e_14, h⟩ := nm_some h
          have hl : lv_has ls 10 [(5, .int v_14), (4, .int v_13), (6, .int x8), (9, .int r_3), (0, .ref (E.2.2 + 0)), (1, .int x1), (2, .int x2), (3, .int x3), (7, .int x7), (8, .int x8)] := by rw [e_14]; exact hl
          refine lv_iinc (v := x8 + 1) (lv' := [(8, .int (x8 + 1)), (5, .int v_14), (4, .int v_13), (6, .int x8), (9, .int r_3), (0, .ref (E.2.2 + 0)), (1, .int x1), (2, .int x2), (3, .int x3), (7, .int x7)]) hx hb dX11_marks_114 hl (k := 9) rfl rfl (by decide) rfl (fun ls hl => ?_)
          obtain ⟨v_15, e_15, h⟩ := nm_some h
          have hl : lv_has ls 10 [(8, .int v_15), (5, .int v_14), (4, .int v_13), (6, .int x8), (9, .int r_3), (0, .ref (E.2.2 + 0)), (1, .int x1), (2, .int x2), (3, .int x3), (7, .int x7)] := by rw [e_15]; exact hl
          refine lv_goto (tgt := 48) hx hb dX11_marks_117 (by decide) ?_
          exact hrec_48 σ_6 τ_6 x1 x2 x3 v_13 v_14 x8 x7 v_15 _ _ _ _ _ _ h hw (lv_sub hl [5, 6, 7, 8, 2, 1, 3, 9, 0] rfl)
set_option maxHeartbeats 4000000 in
set_option maxRecDepth 100000 in
theorem h_X11_marks_48 (l : Launch) (S : CallFix P9 m9 C9 cX11_marks 10 s av.toArray gx_G RX11) (hr : meth.sig.returnType = (some .int)) (hlk : meth.locks = false) (hK : gx_K E s) (N : Nat) (rec_33 : gI → gJ → Int32 → Int32 → Int32 → Int32 → Int32 → Int32 → Int32 → Option (Int32 × gI × gJ)) (hrec_33 : ∀ (σ : gI) (τ : gJ) (x1 : Int32) (x2 : Int32) (x3 : Int32) (x4 : Int32) (x5 : Int32) (x6 : Int32) (x7 : Int32) (r : Int32) (σ1 : gI) (τ1 : gJ) (H : Heap) (locs : List Loc) (ls : Array Slot), rec_33 σ τ x1 x2 x3 x4 x5 x6 x7 = some (r, σ1, τ1) → gx_W gx_tb gx_tb.length E s σ τ H locs → lv_has ls 10 [(0, .ref (E.2.2 + 0)), (1, .int x1), (2, .int x2), (3, .int x3), (4, .int x4), (5, .int x5), (6, .int x6), (7, .int x7)] → W P9 l e9 (gx_rm 6) s m9 av.toArray below meth C9 H locs 0 0 (gq_Qi below av s E r σ1 τ1) (F0 m9 33 ls [])) : ∀ (n : Nat) (σ : gI) (τ : gJ) (x1 : Int32) (x2 : Int32) (x3 : Int32) (x4 : Int32) (x5 : Int32) (x6 : Int32) (x7 : Int32) (x8 : Int32) (r : Int32) (σ1 : gI) (τ1 : gJ), H_X11_marks_48 N rec_33 n σ τ x1 x2 x3 x4 x5 x6 x7 x8 = some (r, σ1, τ1) → ∀ (H : Heap) (locs : List Loc) (ls : Array Slot), gx_W gx_tb gx_tb.length E s σ τ H locs → lv_has ls 10 [(0, .ref (E.2.2 + 0)), (1, .int x1), (2, .int x2), (3, .int x3), (4, .int x4), (5, .int x5), (6, .int x6), (7, .int x7), (8, .int x8)] → W P9 l e9 (gx_rm 6) s m9 av.toArray below meth C9 H locs 0 0 (gq_Qi below av s E r σ1 τ1) (F0 m9 48 ls []) := by
  intro n
  induction n with
  | zero => intro σ τ x1 x2 x3 x4 x5 x6 x7 x8 r σ1 τ1 h; cases h
  | succ n ih =>
    intro σ τ x1 x2 x3 x4 x5 x6 x7 x8 r σ1 τ1 h H locs ls hw hl
    exact k_X11_marks_48 l S hr hlk hK N rec_33 hrec_33 (H_X11_marks_48 N rec_33 n) (fun σ τ x1 x2 x3 x4 x5 x6 x7 x8 r σ1 τ1 H locs ls h hw hl => ih σ τ x1 x2 x3 x4 x5 x6 x7 x8 r σ1 τ1 h H locs ls hw hl) σ τ x1 x2 x3 x4 x5 x6 x7 x8 h hw hl
set_option maxHeartbeats 4000000 in
set_option maxRecDepth 100000 in
theorem k_X11_marks_33 (l : Launch) (S : CallFix P9 m9 C9 cX11_marks 10 s av.toArray gx_G RX11) (hr : meth.sig.returnType = (some .int)) (hlk : meth.locks = false) (hK : gx_K E s) (N : Nat) (rec_33 : gI → gJ → Int32 → Int32 → Int32 → Int32 → Int32 → Int32 → Int32 → Option (Int32 × gI × gJ)) (hrec_33 : ∀ (σ : gI) (τ : gJ) (x1 : Int32) (x2 : Int32) (x3 : Int32) (x4 : Int32) (x5 : Int32) (x6 : Int32) (x7 : Int32) (r : Int32) (σ1 : gI) (τ1 : gJ) (H : Heap) (locs : List Loc) (ls : Array Slot), rec_33 σ τ x1 x2 x3 x4 x5 x6 x7 = some (r, σ1, τ1) → gx_W gx_tb gx_tb.length E s σ τ H locs → lv_has ls 10 [(0, .ref (E.2.2 + 0)), (1, .int x1), (2, .int x2), (3, .int x3), (4, .int x4), (5, .int x5), (6, .int x6), (7, .int x7)] → W P9 l e9 (gx_rm 6) s m9 av.toArray below meth C9 H locs 0 0 (gq_Qi below av s E r σ1 τ1) (F0 m9 33 ls [])) (σ : gI) (τ : gJ) (x1 : Int32) (x2 : Int32) (x3 : Int32) (x4 : Int32) (x5 : Int32) (x6 : Int32) (x7 : Int32) {r : Int32} {σ1 : gI} {τ1 : gJ} (h : C_X11_marks_33 N rec_33 σ τ x1 x2 x3 x4 x5 x6 x7 = some (r, σ1, τ1)) {H : Heap} {locs : List Loc} {ls : Array Slot} (hw : gx_W gx_tb gx_tb.length E s σ τ H locs) (hl : lv_has ls 10 [(0, .ref (E.2.2 + 0)), (1, .int x1), (2, .int x2), (3, .int x3), (4, .int x4), (5, .int x5), (6, .int x6), (7, .int x7)]) : W P9 l e9 (gx_rm 6) s m9 av.toArray below meth C9 H locs 0 0 (gq_Qi below av s E r σ1 τ1) (F0 m9 33 ls []) := by
  have hx := S.1
  have hb := S.2.1
  unfold C_X11_marks_33 at h
  refine lv_iload hx hb dX11_marks_33 (lv_at hl 7 rfl) ?_
  refine lv_aload_n hx hb dX11_marks_35 rfl (lv_at hl 0 rfl) ?_
  refine gx_getr (j := 3) S hK hw t_0 cl_12 1 (by decide) rfl mw_448 rfl dX11_marks_36 ?_
  refine gx_get S hK hw t_3 cl_9 6 (by decide) rfl mw_155 rfl dX11_marks_39 ?_
  refine lv_icmp_ge (tgt := 126) hx hb dX11_marks_42 (by decide) (fun c_1 => ?_) (fun c_1 => ?_)
  · rw [if_pos c_1] at h
    refine lv_iload hx hb dX11_marks_126 (lv_at hl 4 rfl) ?_
    refine lv_if_ne (tgt := 142) hx hb dX11_marks_128 (by decide) (fun c_2 => ?_) (fun c_2 => ?_)
    · rw [if_neg c_2] at h
      refine lv_aload_n hx hb dX11_marks_142 rfl (lv_at hl 0 rfl) ?_
      refine gx_getr (j := 156) S hK hw t_0 cl_12 13 (by decide) rfl mw_460 rfl dX11_marks_143 ?_
      refine lv_iload hx hb dX11_marks_146 (lv_at hl 5 rfl) ?_
      obtain ⟨r_3, σ_3, τ_3, q_3, h⟩ := bd_some h
      refine gx_cSi (As := [.int x5]) (rest := [.ref (E.2.2 + 156)]) S hK gx_ok hw (c_X11_lowest l (E := E) N σ τ x5 q_3) cw_X11_310 ⟨Nat.le_of_ble_eq_true rfl, Nat.le_of_ble_eq_true rfl⟩ rfl hl.1 rfl (Nat.le_of_ble_eq_true rfl) ⟨Nat.le_of_ble_eq_true rfl, Nat.le_of_ble_eq_true rfl⟩ dX11_marks_148 (fun r9 σ9 τ9 H locs hp hw => ?_)
      obtain ⟨rfl, rfl, rfl⟩ := hp
      refine lv_i2l (v := r_3.toInt64) hx hb dX11_marks_151 rfl ?_
      refine lv_iload hx hb dX11_marks_152 (lv_at hl 6 rfl) ?_
      refine lv_i2l (v := x6.toInt64) hx hb dX11_marks_154 rfl ?_
      refine lv_iload hx hb dX11_marks_155 (lv_at hl 5 rfl) ?_
      refine lv_i2l (v := x5.toInt64) hx hb dX11_marks_157 rfl ?_
      obtain ⟨u_4, σ_4, τ_4, q_4, h⟩ := bd_some h
      refine gx_cVv (As := [.long r_3.toInt64, .long x6.toInt64, .long x5.toInt64]) (rest := []) S hK gx_ok hw (c_X4_tell__ l (E := E) N σ_3 τ_3 r_3.toInt64 x6.toInt64 x5.toInt64 q_4) cw_X11_300 t_156 cl_5 ⟨Nat.le_of_ble_eq_true rfl, Nat.le_of_ble_eq_true rfl⟩ rfl hl.1 rfl (Nat.le_of_ble_eq_true rfl) ⟨Nat.le_of_ble_eq_true rfl, Nat.le_of_ble_eq_true rfl⟩ dX11_marks_158 (fun σ9 τ9 H locs hp hw => ?_)
      obtain ⟨rfl, rfl⟩ := hp
      refine lv_iload hx hb dX11_marks_161 (lv_at hl 4 rfl) ?_
      obtain ⟨rfl, rfl, rfl⟩ := sm_inj h
      exact gx_ri (post := gq_p x4 σ_4 τ_4) (v := x4) S hr hlk hw rfl dX11_marks_163 ⟨rfl, rfl, rfl⟩
    · rw [if_pos c_2] at h
      refine lv_aload_n hx hb dX11_marks_131 rfl (lv_at hl 0 rfl) ?_
      refine gx_getr (j := 156) S hK hw t_0 cl_12 13 (by decide) rfl mw_460 rfl dX11_marks_132 ?_
      refine lv_lconst (v := 0) hx hb dX11_marks_135 (by decide) ?_
      obtain ⟨u_5, σ_5, τ_5, q_5, h⟩ := bd_some h
      refine gx_cVv (As := [.long 0]) (rest := []) S hK gx_ok hw (c_X4_tell l (E := E) N σ τ 0 q_5) cw_X11_307 t_156 cl_5 ⟨Nat.le_of_ble_eq_true rfl, Nat.le_of_ble_eq_true rfl⟩ rfl hl.1 rfl (Nat.le_of_ble_eq_true rfl) ⟨Nat.le_of_ble_eq_true rfl, Nat.le_of_ble_eq_true rfl⟩ dX11_marks_136 (fun σ9 τ9 H locs hp hw => ?_)
      obtain ⟨rfl, rfl⟩ := hp
      refine lv_goto (tgt := 161) hx hb dX11_marks_139 (by decide) ?_
      refine lv_iload hx hb dX11_marks_161 (lv_at hl 4 rfl) ?_
      obtain ⟨rfl, rfl, rfl⟩ := sm_inj h
      exact gx_ri (post := gq_p x4 σ_5 τ_5) (v := x4) S hr hlk hw rfl dX11_marks_163 ⟨rfl, rfl, rfl⟩
  · rw [if_neg c_1] at h
    refine lv_iconst (v := 0) hx hb dX11_marks_45 (by decide) ?_
    refine lv_istore (lv' := [(8, .int 0), (0, .ref (E.2.2 + 0)), (1, .int x1), (2, .int x2), (3, .int x3), (4, .int x4), (5, .int x5), (6, .int x6), (7, .int x7)]) hx hb dX11_marks_46 hl (by decide) rfl (fun ls hl => ?_)
    exact h_X11_marks_48 l S hr hlk hK N rec_33 hrec_33 N σ τ x1 x2 x3 x4 x5 x6 x7 0 _ _ _ h _ _ _ hw (lv_sub hl [1, 2, 3, 4, 5, 6, 7, 8, 0] rfl)
set_option maxHeartbeats 4000000 in
set_option maxRecDepth 100000 in
theorem h_X11_marks_33 (l : Launch) (S : CallFix P9 m9 C9 cX11_marks 10 s av.toArray gx_G RX11) (hr : meth.sig.returnType = (some .int)) (hlk : meth.locks = false) (hK : gx_K E s) (N : Nat) : ∀ (n : Nat) (σ : gI) (τ : gJ) (x1 : Int32) (x2 : Int32) (x3 : Int32) (x4 : Int32) (x5 : Int32) (x6 : Int32) (x7 : Int32) (r : Int32) (σ1 : gI) (τ1 : gJ), H_X11_marks_33 N n σ τ x1 x2 x3 x4 x5 x6 x7 = some (r, σ1, τ1) → ∀ (H : Heap) (locs : List Loc) (ls : Array Slot), gx_W gx_tb gx_tb.length E s σ τ H locs → lv_has ls 10 [(0, .ref (E.2.2 + 0)), (1, .int x1), (2, .int x2), (3, .int x3), (4, .int x4), (5, .int x5), (6, .int x6), (7, .int x7)] → W P9 l e9 (gx_rm 6) s m9 av.toArray below meth C9 H locs 0 0 (gq_Qi below av s E r σ1 τ1) (F0 m9 33 ls []) := by
  intro n
  induction n with
  | zero => intro σ τ x1 x2 x3 x4 x5 x6 x7 r σ1 τ1 h; cases h
  | succ n ih =>
    intro σ τ x1 x2 x3 x4 x5 x6 x7 r σ1 τ1 h H locs ls hw hl
    exact k_X11_marks_33 l S hr hlk hK N (H_X11_marks_33 N n) (fun σ τ x1 x2 x3 x4 x5 x6 x7 r σ1 τ1 H locs ls h hw hl => ih σ τ x1 x2 x3 x4 x5 x6 x7 r σ1 τ1 h H locs ls hw hl) σ τ x1 x2 x3 x4 x5 x6 x7 h hw hl
set_option maxHeartbeats 4000000 in
set_option maxRecDepth 100000 in
theorem b_X11_marks_0 (l : Launch) (S : CallFix P9 m9 C9 cX11_marks 10 s av.toArray gx_G RX11) (hr : meth.sig.returnType = (some .int)) (hlk : meth.locks = false) (hK : gx_K E s) (N : Nat) (σ : gI) (τ : gJ) (x1 : Int32) (x2 : Int32) (x3 : Int32) {r : Int32} {σ1 : gI} {τ1 : gJ} (h : B_X11_marks_0 N σ τ x1 x2 x3 = some (r, σ1, τ1)) {H : Heap} {locs : List Loc} {ls : Array Slot} (hw : gx_W gx_tb gx_tb.length E s σ τ H locs) (hl : lv_has ls 10 [(0, .ref (E.2.2 + 0)), (1, .int x1), (2, .int x2), (3, .int x3)]) : W P9 l e9 (gx_rm 6) s m9 av.toArray below meth C9 H locs 0 0 (gq_Qi below av s E r σ1 τ1) (F0 m9 0 ls []) := by
  have hx := S.1
  have hb := S.2.1
  unfold B_X11_marks_0 at h
  refine lv_iload_n hx hb dX11_marks_0 rfl (lv_at hl 1 rfl) ?_
  refine lv_iload_n hx hb dX11_marks_1 rfl (lv_at hl 2 rfl) ?_
  obtain ⟨r_1, σ_1, τ_1, q_1, h⟩ := bd_some h
  refine gx_cSi (As := [.int x1, .int x2]) (rest := []) S hK gx_ok hw (c_X11_isLoad l (E := E) N σ τ x1 x2 q_1) cw_X11_227 ⟨Nat.le_of_ble_eq_true rfl, Nat.le_of_ble_eq_true rfl⟩ rfl hl.1 rfl (Nat.le_of_ble_eq_true rfl) ⟨Nat.le_of_ble_eq_true rfl, Nat.le_of_ble_eq_true rfl⟩ dX11_marks_2 (fun r9 σ9 τ9 H locs hp hw => ?_)
  obtain ⟨rfl, rfl, rfl⟩ := hp
  refine lv_if_eq (tgt := 19) hx hb dX11_marks_5 (by decide) (fun c_2 => ?_) (fun c_2 => ?_)
  · rw [if_pos c_2] at h
    refine lv_iconst (v := (-1)) hx hb dX11_marks_19 (by decide) ?_
    obtain ⟨rfl, rfl, rfl⟩ := sm_inj h
    exact gx_ri (post := gq_p (-1) σ_1 τ_1) (v := (-1)) S hr hlk hw rfl dX11_marks_20 ⟨rfl, rfl, rfl⟩
  · rw [if_neg c_2] at h
    refine lv_iload_n hx hb dX11_marks_8 rfl (lv_at hl 3 rfl) ?_
    refine lv_if_lt (tgt := 19) hx hb dX11_marks_9 (by decide) (fun c_3 => ?_) (fun c_3 => ?_)
    · rw [if_pos c_3] at h
      refine lv_iconst (v := (-1)) hx hb dX11_marks_19 (by decide) ?_
      obtain ⟨rfl, rfl, rfl⟩ := sm_inj h
      exact gx_ri (post := gq_p (-1) σ_1 τ_1) (v := (-1)) S hr hlk hw rfl dX11_marks_20 ⟨rfl, rfl, rfl⟩
    · rw [if_neg c_3] at h
      refine lv_iload_n hx hb dX11_marks_12 rfl (lv_at hl 3 rfl) ?_
      refine lv_sipush (v := 4096) hx hb dX11_marks_13 (by decide) ?_
      refine lv_icmp_lt (tgt := 21) hx hb dX11_marks_16 (by decide) (fun c_4 => ?_) (fun c_4 => ?_)
      · rw [if_pos c_4] at h
        refine lv_iconst (v := 0) hx hb dX11_marks_21 (by decide) ?_
        refine lv_istore (lv' := [(4, .int 0), (0, .ref (E.2.2 + 0)), (1, .int x1), (2, .int x2), (3, .int x3)]) hx hb dX11_marks_22 hl (by decide) rfl (fun ls hl => ?_)
        refine lv_iconst (v := 0) hx hb dX11_marks_24 (by decide) ?_
        refine lv_istore (lv' := [(5, .int 0), (4, .int 0), (0, .ref (E.2.2 + 0)), (1, .int x1), (2, .int x2), (3, .int x3)]) hx hb dX11_marks_25 hl (by decide) rfl (fun ls hl => ?_)
        refine lv_iconst (v := (-1)) hx hb dX11_marks_27 (by decide) ?_
        refine lv_istore (lv' := [(6, .int (-1)), (5, .int 0), (4, .int 0), (0, .ref (E.2.2 + 0)), (1, .int x1), (2, .int x2), (3, .int x3)]) hx hb dX11_marks_28 hl (by decide) rfl (fun ls hl => ?_)
        refine lv_iconst (v := 0) hx hb dX11_marks_30 (by decide) ?_
        refine lv_istore (lv' := [(7, .int 0), (6, .int (-1)), (5, .int 0), (4, .int 0), (0, .ref (E.2.2 + 0)), (1, .int x1), (2, .int x2), (3, .int x3)]) hx hb dX11_marks_31 hl (by decide) rfl (fun ls hl => ?_)
        exact h_X11_marks_33 l S hr hlk hK N N σ_1 τ_1 x1 x2 x3 0 0 (-1) 0 _ _ _ h _ _ _ hw (lv_sub hl [4, 5, 6, 7, 3, 2, 1, 0] rfl)
      · rw [if_neg c_4] at h
        refine lv_iconst (v := (-1)) hx hb dX11_marks_19 (by decide) ?_
        obtain ⟨rfl, rfl, rfl⟩ := sm_inj h
        exact gx_ri (post := gq_p (-1) σ_1 τ_1) (v := (-1)) S hr hlk hw rfl dX11_marks_20 ⟨rfl, rfl, rfl⟩
set_option maxHeartbeats 4000000 in
set_option maxRecDepth 100000 in
theorem c_X11_marks (l : Launch) {E : gE} (N : Nat) (σ : gI) (τ : gJ) (x1 : Int32) (x2 : Int32) (x3 : Int32) {r : Int32} {σ1 : gI} {τ1 : gJ} (h : B_X11_marks_0 N σ τ x1 x2 x3 = some (r, σ1, τ1)) : gx_Mi l yX11_marks cX11_marks 10 (some .int) 6 gx_tb E σ τ [.ref (E.2.2 + 0), .int x1, .int x2, .int x3] (gq_p r σ1 τ1) := by
  refine gx_bi (by decide +kernel) (Nat.le_of_ble_eq_true rfl) ?_
  intro P9 e9 s m9 below meth C9 S hr hlk hK hw ls hl
  have hl : lv_has ls 10 [(0, .ref (E.2.2 + 0)), (1, .int x1), (2, .int x2), (3, .int x3)] := hl
  exact b_X11_marks_0 l S hr hlk hK N σ τ x1 x2 x3 h hw hl
/-! X9_tally -/
def B_X9_tally_14 (N : Nat) (σ : gI) (τ : gJ) : Option (Int32 × gI × gJ) := nm (up2 σ 163 12 ((σ 163 12) + 1)) fun σ_1 => some (σ_1 163 12, σ_1, τ)
def B_X9_tally_0 (N : Nat) (σ : gI) (τ : gJ) (x1 : Int32) : Option (Int32 × gI × gJ) := if x1 < 0 then (B_X9_tally_14 N σ τ) else (if 12 ≤ x1 then (B_X9_tally_14 N σ τ) else (ck x1 13 fun j_3 => nm (up2 σ 163 j_3 ((σ 163 j_3) + 1)) fun σ_4 => some (σ_4 163 j_3, σ_4, τ)))
set_option maxHeartbeats 4000000 in
set_option maxRecDepth 100000 in
theorem b_X9_tally_14 (l : Launch) (S : CallFix P9 m9 C9 cX9_tally 3 s av.toArray gx_G RX9) (hr : meth.sig.returnType = (some .int)) (hlk : meth.locks = false) (hK : gx_K E s) (N : Nat) (σ : gI) (τ : gJ) {r : Int32} {σ1 : gI} {τ1 : gJ} (h : B_X9_tally_14 N σ τ = some (r, σ1, τ1)) {H : Heap} {locs : List Loc} {ls : Array Slot} (hw : gx_W gx_tb gx_tb.length E s σ τ H locs) (hl : lv_has ls 3 [(0, .ref (E.2.2 + 160))]) : W P9 l e9 (gx_rm 0) s m9 av.toArray below meth C9 H locs 0 0 (gq_Qi below av s E r σ1 τ1) (F0 m9 14 ls []) := by
  have hx := S.1
  have hb := S.2.1
  unfold B_X9_tally_14 at h
  refine lv_bipush (v := 12) hx hb dX9_tally_14 (by decide) ?_
  refine lv_istore_n (lv' := [(2, .int 12), (0, .ref (E.2.2 + 160))]) hx hb dX9_tally_16 rfl hl (by decide) rfl (fun ls hl => ?_)
  refine lv_aload_n hx hb dX9_tally_17 rfl (lv_at hl 1 rfl) ?_
  refine gx_getr (j := 163) S hK hw t_160 cl_10 4 (by decide) rfl mw_420 rfl dX9_tally_18 ?_
  refine lv_iload_n hx hb dX9_tally_21 rfl (lv_at hl 0 rfl) ?_
  refine lv_dup2_11 hx hb dX9_tally_22 rfl rfl ?_
  refine gx_iald S hK hw t_163 12 rfl (gx_in rfl (by decide) (by decide)) dX9_tally_23 ?_
  refine lv_iconst (v := 1) hx hb dX9_tally_24 (by decide) ?_
  refine lv_iadd hx hb dX9_tally_25 ?_
  refine gx_iast S hK gx_ok hw t_163 12 rfl (gx_in rfl (by decide) (by decide)) dX9_tally_26 (fun H locs hw => ?_)
  obtain ⟨σ_1, e_1, h⟩ := nm_some h
  rw [← e_1] at hw
  refine lv_aload_n hx hb dX9_tally_27 rfl (lv_at hl 1 rfl) ?_
  refine gx_getr (j := 163) S hK hw t_160 cl_10 4 (by decide) rfl mw_420 rfl dX9_tally_28 ?_
  refine lv_iload_n hx hb dX9_tally_31 rfl (lv_at hl 0 rfl) ?_
  refine gx_iald S hK hw t_163 12 rfl (gx_in rfl (by decide) (by decide)) dX9_tally_32 ?_
  obtain ⟨rfl, rfl, rfl⟩ := sm_inj h
  exact gx_ri (post := gq_p (σ_1 163 12) σ_1 τ) (v := σ_1 163 12) S hr hlk hw rfl dX9_tally_33 ⟨rfl, rfl, rfl⟩
set_option maxHeartbeats 4000000 in
set_option maxRecDepth 100000 in
theorem b_X9_tally_0 (l : Launch) (S : CallFix P9 m9 C9 cX9_tally 3 s av.toArray gx_G RX9) (hr : meth.sig.returnType = (some .int)) (hlk : meth.locks = false) (hK : gx_K E s) (N : Nat) (σ : gI) (τ : gJ) (x1 : Int32) {r : Int32} {σ1 : gI} {τ1 : gJ} (h : B_X9_tally_0 N σ τ x1 = some (r, σ1, τ1)) {H : Heap} {locs : List Loc} {ls : Array Slot} (hw : gx_W gx_tb gx_tb.length E s σ τ H locs) (hl : lv_has ls 3 [(0, .ref (E.2.2 + 160)), (1, .int x1)]) : W P9 l e9 (gx_rm 0) s m9 av.toArray below meth C9 H locs 0 0 (gq_Qi below av s E r σ1 τ1) (F0 m9 0 ls []) := by
  have hx := S.1
  have hb := S.2.1
  unfold B_X9_tally_0 at h
  refine lv_iload_n hx hb dX9_tally_0 rfl (lv_at hl 1 rfl) ?_
  refine lv_if_lt (tgt := 14) hx hb dX9_tally_1 (by decide) (fun c_1 => ?_) (fun c_1 => ?_)
  · rw [if_pos c_1] at h
    exact b_X9_tally_14 l S hr hlk hK N σ τ h hw (lv_sub hl [0] rfl)
  · rw [if_neg c_1] at h
    refine lv_iload_n hx hb dX9_tally_4 rfl (lv_at hl 1 rfl) ?_
    refine lv_bipush (v := 12) hx hb dX9_tally_5 (by decide) ?_
    refine lv_icmp_ge (tgt := 14) hx hb dX9_tally_7 (by decide) (fun c_2 => ?_) (fun c_2 => ?_)
    · rw [if_pos c_2] at h
      exact b_X9_tally_14 l S hr hlk hK N σ τ h hw (lv_sub hl [0] rfl)
    · rw [if_neg c_2] at h
      refine lv_iload_n hx hb dX9_tally_10 rfl (lv_at hl 1 rfl) ?_
      refine lv_goto (tgt := 16) hx hb dX9_tally_11 (by decide) ?_
      refine lv_istore_n (lv' := [(2, .int x1), (0, .ref (E.2.2 + 160)), (1, .int x1)]) hx hb dX9_tally_16 rfl hl (by decide) rfl (fun ls hl => ?_)
      refine lv_aload_n hx hb dX9_tally_17 rfl (lv_at hl 1 rfl) ?_
      refine gx_getr (j := 163) S hK hw t_160 cl_10 4 (by decide) rfl mw_420 rfl dX9_tally_18 ?_
      refine lv_iload_n hx hb dX9_tally_21 rfl (lv_at hl 0 rfl) ?_
      refine lv_dup2_11 hx hb dX9_tally_22 rfl rfl ?_
      obtain ⟨j_3, hj_3, hi_3, h⟩ := ck_some h
      refine gx_iald S hK hw t_163 j_3 hj_3 hi_3 dX9_tally_23 ?_
      refine lv_iconst (v := 1) hx hb dX9_tally_24 (by decide) ?_
      refine lv_iadd hx hb dX9_tally_25 ?_
      refine gx_iast S hK gx_ok hw t_163 j_3 hj_3 hi_3 dX9_tally_26 (fun H locs hw => ?_)
      obtain ⟨σ_4, e_4, h⟩ := nm_some h
      rw [← e_4] at hw
      refine lv_aload_n hx hb dX9_tally_27 rfl (lv_at hl 1 rfl) ?_
      refine gx_getr (j := 163) S hK hw t_160 cl_10 4 (by decide) rfl mw_420 rfl dX9_tally_28 ?_
      refine lv_iload_n hx hb dX9_tally_31 rfl (lv_at hl 0 rfl) ?_
      refine gx_iald S hK hw t_163 j_3 hj_3 hi_3 dX9_tally_32 ?_
      obtain ⟨rfl, rfl, rfl⟩ := sm_inj h
      exact gx_ri (post := gq_p (σ_4 163 j_3) σ_4 τ) (v := σ_4 163 j_3) S hr hlk hw rfl dX9_tally_33 ⟨rfl, rfl, rfl⟩
set_option maxHeartbeats 4000000 in
set_option maxRecDepth 100000 in
theorem c_X9_tally (l : Launch) {E : gE} (N : Nat) (σ : gI) (τ : gJ) (x1 : Int32) {r : Int32} {σ1 : gI} {τ1 : gJ} (h : B_X9_tally_0 N σ τ x1 = some (r, σ1, τ1)) : gx_Mi l yX9_tally cX9_tally 3 (some .int) 0 gx_tb E σ τ [.ref (E.2.2 + 160), .int x1] (gq_p r σ1 τ1) := by
  refine gx_bi (by decide +kernel) (Nat.le_of_ble_eq_true rfl) ?_
  intro P9 e9 s m9 below meth C9 S hr hlk hK hw ls hl
  have hl : lv_has ls 3 [(0, .ref (E.2.2 + 160)), (1, .int x1)] := hl
  exact b_X9_tally_0 l S hr hlk hK N σ τ x1 h hw hl
/-! X9_mostLeft -/
def C_X9_mostLeft_31 (N : Nat) (rec_31 : gI → gJ → Int32 → Int32 → Int32 → Option (Int32 × gI × gJ)) (σ : gI) (τ : gJ) (x1 : Int32) (x2 : Int32) (x3 : Int32) : Option (Int32 × gI × gJ) := if σ 3 8 ≤ x3 then (some (x1, σ, τ)) else (bd (B_X9_fits_0 N σ τ x2) fun r_2 σ_2 τ_2 => if r_2 = 0 then (bd (B_X8_nextSet_0 N σ_2 τ_2 x2) fun r_4 σ_4 τ_4 => nm (x3 + 1) fun v_5 => rec_31 σ_4 τ_4 x1 r_4 v_5) else (bd (B_X9_outcome_0 N σ_2 τ_2 x2) fun r_6 σ_6 τ_6 => bd (B_X11_kitchenOf_0 N σ_6 τ_6 r_6) fun r_7 σ_7 τ_7 => bd (B_X9_tally_0 N σ_7 τ_7 r_7) fun r_8 σ_8 τ_8 => nm (imax x1 r_8) fun v_9 => bd (B_X8_nextSet_0 N σ_8 τ_8 x2) fun r_10 σ_10 τ_10 => nm (x3 + 1) fun v_11 => rec_31 σ_10 τ_10 v_9 r_10 v_11))
def H_X9_mostLeft_31 (N : Nat) : Nat → gI → gJ → Int32 → Int32 → Int32 → Option (Int32 × gI × gJ) := itn (fun rec_31 => C_X9_mostLeft_31 N rec_31) (fun _ _ _ _ _ => none)
def C_X9_mostLeft_6 (N : Nat) (rec_6 : gI → gJ → Int32 → Option (Int32 × gI × gJ)) (σ : gI) (τ : gJ) (x1 : Int32) : Option (Int32 × gI × gJ) := if 12 < x1 then (H_X9_mostLeft_31 N N σ τ 0 0 0) else (ck x1 13 fun j_2 => nm (up2 σ 163 j_2 0) fun σ_3 => nm (x1 + 1) fun v_4 => rec_6 σ_3 τ v_4)
def H_X9_mostLeft_6 (N : Nat) : Nat → gI → gJ → Int32 → Option (Int32 × gI × gJ) := itn (fun rec_6 => C_X9_mostLeft_6 N rec_6) (fun _ _ _ => none)
def B_X9_mostLeft_0 (N : Nat) (σ : gI) (τ : gJ) : Option (Int32 × gI × gJ) := bd (B_X9_forgetSets_0 N σ τ) fun _ σ_1 τ_1 => H_X9_mostLeft_6 N N σ_1 τ_1 0
set_option maxHeartbeats 4000000 in
set_option maxRecDepth 100000 in
theorem k_X9_mostLeft_31 (l : Launch) (S : CallFix P9 m9 C9 cX9_mostLeft 4 s av.toArray gx_G RX9) (hr : meth.sig.returnType = (some .int)) (hlk : meth.locks = false) (hK : gx_K E s) (N : Nat) (rec_31 : gI → gJ → Int32 → Int32 → Int32 → Option (Int32 × gI × gJ)) (hrec_31 : ∀ (σ : gI) (τ : gJ) (x1 : Int32) (x2 : Int32) (x3 : Int32) (r : Int32) (σ1 : gI) (τ1 : gJ) (H : Heap) (locs : List Loc) (ls : Array Slot), rec_31 σ τ x1 x2 x3 = some (r, σ1, τ1) → gx_W gx_tb gx_tb.length E s σ τ H locs → lv_has ls 4 [(0, .ref (E.2.2 + 160)), (1, .int x1), (2, .int x2), (3, .int x3)] → W P9 l e9 (gx_rm 6) s m9 av.toArray below meth C9 H locs 0 0 (gq_Qi below av s E r σ1 τ1) (F0 m9 31 ls [])) (σ : gI) (τ : gJ) (x1 : Int32) (x2 : Int32) (x3 : Int32) {r : Int32} {σ1 : gI} {τ1 : gJ} (h : C_X9_mostLeft_31 N rec_31 σ τ x1 x2 x3 = some (r, σ1, τ1)) {H : Heap} {locs : List Loc} {ls : Array Slot} (hw : gx_W gx_tb gx_tb.length E s σ τ H locs) (hl : lv_has ls 4 [(0, .ref (E.2.2 + 160)), (1, .int x1), (2, .int x2), (3, .int x3)]) : W P9 l e9 (gx_rm 6) s m9 av.toArray below meth C9 H locs 0 0 (gq_Qi below av s E r σ1 τ1) (F0 m9 31 ls []) := by
  have hx := S.1
  have hb := S.2.1
  unfold C_X9_mostLeft_31 at h
  refine lv_iload_n hx hb dX9_mostLeft_31 rfl (lv_at hl 3 rfl) ?_
  refine lv_aload_n hx hb dX9_mostLeft_32 rfl (lv_at hl 0 rfl) ?_
  refine gx_getr (j := 3) S hK hw t_160 cl_10 0 (by decide) rfl mw_416 rfl dX9_mostLeft_33 ?_
  refine gx_get S hK hw t_3 cl_9 8 (by decide) rfl mw_160 rfl dX9_mostLeft_36 ?_
  refine lv_icmp_ge (tgt := 82) hx hb dX9_mostLeft_39 (by decide) (fun c_1 => ?_) (fun c_1 => ?_)
  · rw [if_pos c_1] at h
    refine lv_iload_n hx hb dX9_mostLeft_82 rfl (lv_at hl 1 rfl) ?_
    obtain ⟨rfl, rfl, rfl⟩ := sm_inj h
    exact gx_ri (post := gq_p x1 σ τ) (v := x1) S hr hlk hw rfl dX9_mostLeft_83 ⟨rfl, rfl, rfl⟩
  · rw [if_neg c_1] at h
    refine lv_aload_n hx hb dX9_mostLeft_42 rfl (lv_at hl 0 rfl) ?_
    refine lv_iload_n hx hb dX9_mostLeft_43 rfl (lv_at hl 2 rfl) ?_
    obtain ⟨r_2, σ_2, τ_2, q_2, h⟩ := bd_some h
    refine gx_cVi (As := [.int x2]) (rest := []) S hK gx_ok hw (c_X9_fits l (E := E) N σ τ x2 q_2) cw_X9_149 t_160 cl_10 ⟨Nat.le_of_ble_eq_true rfl, Nat.le_of_ble_eq_true rfl⟩ rfl hl.1 rfl (Nat.le_of_ble_eq_true rfl) ⟨Nat.le_of_ble_eq_true rfl, Nat.le_of_ble_eq_true rfl⟩ dX9_mostLeft_44 (fun r9 σ9 τ9 H locs hp hw => ?_)
    obtain ⟨rfl, rfl, rfl⟩ := hp
    refine lv_if_eq (tgt := 67) hx hb dX9_mostLeft_47 (by decide) (fun c_3 => ?_) (fun c_3 => ?_)
    · rw [if_pos c_3] at h
      refine lv_aload_n hx hb dX9_mostLeft_67 rfl (lv_at hl 0 rfl) ?_
      refine gx_getr (j := 3) S hK hw t_160 cl_10 0 (by decide) rfl mw_416 rfl dX9_mostLeft_68 ?_
      refine lv_iload_n hx hb dX9_mostLeft_71 rfl (lv_at hl 2 rfl) ?_
      obtain ⟨r_4, σ_4, τ_4, q_4, h⟩ := bd_some h
      refine gx_cVi (As := [.int x2]) (rest := []) S hK gx_ok hw (c_X8_nextSet l (E := E) N σ_2 τ_2 x2 q_4) cw_X9_125 t_3 cl_9 ⟨Nat.le_of_ble_eq_true rfl, Nat.le_of_ble_eq_true rfl⟩ rfl hl.1 rfl (Nat.le_of_ble_eq_true rfl) ⟨Nat.le_of_ble_eq_true rfl, Nat.le_of_ble_eq_true rfl⟩ dX9_mostLeft_72 (fun r9 σ9 τ9 H locs hp hw => ?_)
      obtain ⟨rfl, rfl, rfl⟩ := hp
      refine lv_istore_n (lv' := [(2, .int r_4), (0, .ref (E.2.2 + 160)), (1, .int x1), (3, .int x3)]) hx hb dX9_mostLeft_75 rfl hl (by decide) rfl (fun ls hl => ?_)
      refine lv_iinc (v := x3 + 1) (lv' := [(3, .int (x3 + 1)), (2, .int r_4), (0, .ref (E.2.2 + 160)), (1, .int x1)]) hx hb dX9_mostLeft_76 hl (k := 3) rfl rfl (by decide) rfl (fun ls hl => ?_)
      obtain ⟨v_5, e_5, h⟩ := nm_some h
      have hl : lv_has ls 4 [(3, .int v_5), (2, .int r_4), (0, .ref (E.2.2 + 160)), (1, .int x1)] := by rw [e_5]; exact hl
      refine lv_goto (tgt := 31) hx hb dX9_mostLeft_79 (by decide) ?_
      exact hrec_31 σ_4 τ_4 x1 r_4 v_5 _ _ _ _ _ _ h hw (lv_sub hl [2, 3, 1, 0] rfl)
    · rw [if_neg c_3] at h
      refine lv_iload_n hx hb dX9_mostLeft_50 rfl (lv_at hl 1 rfl) ?_
      refine lv_aload_n hx hb dX9_mostLeft_51 rfl (lv_at hl 0 rfl) ?_
      refine lv_aload_n hx hb dX9_mostLeft_52 rfl (lv_at hl 0 rfl) ?_
      refine lv_iload_n hx hb dX9_mostLeft_53 rfl (lv_at hl 2 rfl) ?_
      obtain ⟨r_6, σ_6, τ_6, q_6, h⟩ := bd_some h
      refine gx_cVi (As := [.int x2]) (rest := [.ref (E.2.2 + 160), .int x1]) S hK gx_ok hw (c_X9_outcome l (E := E) N σ_2 τ_2 x2 q_6) cw_X9_152 t_160 cl_10 ⟨Nat.le_of_ble_eq_true rfl, Nat.le_of_ble_eq_true rfl⟩ rfl hl.1 rfl (Nat.le_of_ble_eq_true rfl) ⟨Nat.le_of_ble_eq_true rfl, Nat.le_of_ble_eq_true rfl⟩ dX9_mostLeft_54 (fun r9 σ9 τ9 H locs hp hw => ?_)
      obtain ⟨rfl, rfl, rfl⟩ := hp
      obtain ⟨r_7, σ_7, τ_7, q_7, h⟩ := bd_some h
      refine gx_cNi (As := [.int r_6]) (rest := [.ref (E.2.2 + 160), .int x1]) S hK gx_ok hw (c_X11_kitchenOf l (E := E) N σ_6 τ_6 r_6 q_7) cw_X9_155 ⟨Nat.le_of_ble_eq_true rfl, Nat.le_of_ble_eq_true rfl⟩ rfl hl.1 rfl (Nat.le_of_ble_eq_true rfl) ⟨Nat.le_of_ble_eq_true rfl, Nat.le_of_ble_eq_true rfl⟩ dX9_mostLeft_57 (fun r9 σ9 τ9 H locs hp hw => ?_)
      obtain ⟨rfl, rfl, rfl⟩ := hp
      obtain ⟨r_8, σ_8, τ_8, q_8, h⟩ := bd_some h
      refine gx_cVi (As := [.int r_7]) (rest := [.int x1]) S hK gx_ok hw (c_X9_tally l (E := E) N σ_7 τ_7 r_7 q_8) cw_X9_158 t_160 cl_10 ⟨Nat.le_of_ble_eq_true rfl, Nat.le_of_ble_eq_true rfl⟩ rfl hl.1 rfl (Nat.le_of_ble_eq_true rfl) ⟨Nat.le_of_ble_eq_true rfl, Nat.le_of_ble_eq_true rfl⟩ dX9_mostLeft_60 (fun r9 σ9 τ9 H locs hp hw => ?_)
      obtain ⟨rfl, rfl, rfl⟩ := hp
      refine gx_max (w := imax x1 r_8) S hl.1 mw_1097 mw_577 mw_102 mw_578 ⟨Nat.le_of_ble_eq_true rfl, Nat.le_of_ble_eq_true rfl⟩ ⟨Nat.le_of_ble_eq_true rfl, Nat.le_of_ble_eq_true rfl⟩ dX9_mostLeft_63 rfl ?_
      refine lv_istore_n (lv' := [(1, .int (imax x1 r_8)), (0, .ref (E.2.2 + 160)), (2, .int x2), (3, .int x3)]) hx hb dX9_mostLeft_66 rfl hl (by decide) rfl (fun ls hl => ?_)
      obtain ⟨v_9, e_9, h⟩ := nm_some h
      have hl : lv_has ls 4 [(1, .int v_9), (0, .ref (E.2.2 + 160)), (2, .int x2), (3, .int x3)] := by rw [e_9]; exact hl
      refine lv_aload_n hx hb dX9_mostLeft_67 rfl (lv_at hl 1 rfl) ?_
      refine gx_getr (j := 3) S hK hw t_160 cl_10 0 (by decide) rfl mw_416 rfl dX9_mostLeft_68 ?_
      refine lv_iload_n hx hb dX9_mostLeft_71 rfl (lv_at hl 2 rfl) ?_
      obtain ⟨r_10, σ_10, τ_10, q_10, h⟩ := bd_some h
      refine gx_cVi (As := [.int x2]) (rest := []) S hK gx_ok hw (c_X8_nextSet l (E := E) N σ_8 τ_8 x2 q_10) cw_X9_125 t_3 cl_9 ⟨Nat.le_of_ble_eq_true rfl, Nat.le_of_ble_eq_true rfl⟩ rfl hl.1 rfl (Nat.le_of_ble_eq_true rfl) ⟨Nat.le_of_ble_eq_true rfl, Nat.le_of_ble_eq_true rfl⟩ dX9_mostLeft_72 (fun r9 σ9 τ9 H locs hp hw => ?_)
      obtain ⟨rfl, rfl, rfl⟩ := hp
      refine lv_istore_n (lv' := [(2, .int r_10), (1, .int v_9), (0, .ref (E.2.2 + 160)), (3, .int x3)]) hx hb dX9_mostLeft_75 rfl hl (by decide) rfl (fun ls hl => ?_)
      refine lv_iinc (v := x3 + 1) (lv' := [(3, .int (x3 + 1)), (2, .int r_10), (1, .int v_9), (0, .ref (E.2.2 + 160))]) hx hb dX9_mostLeft_76 hl (k := 3) rfl rfl (by decide) rfl (fun ls hl => ?_)
      obtain ⟨v_11, e_11, h⟩ := nm_some h
      have hl : lv_has ls 4 [(3, .int v_11), (2, .int r_10), (1, .int v_9), (0, .ref (E.2.2 + 160))] := by rw [e_11]; exact hl
      refine lv_goto (tgt := 31) hx hb dX9_mostLeft_79 (by decide) ?_
      exact hrec_31 σ_10 τ_10 v_9 r_10 v_11 _ _ _ _ _ _ h hw (lv_sub hl [3, 2, 1, 0] rfl)
set_option maxHeartbeats 4000000 in
set_option maxRecDepth 100000 in
theorem h_X9_mostLeft_31 (l : Launch) (S : CallFix P9 m9 C9 cX9_mostLeft 4 s av.toArray gx_G RX9) (hr : meth.sig.returnType = (some .int)) (hlk : meth.locks = false) (hK : gx_K E s) (N : Nat) : ∀ (n : Nat) (σ : gI) (τ : gJ) (x1 : Int32) (x2 : Int32) (x3 : Int32) (r : Int32) (σ1 : gI) (τ1 : gJ), H_X9_mostLeft_31 N n σ τ x1 x2 x3 = some (r, σ1, τ1) → ∀ (H : Heap) (locs : List Loc) (ls : Array Slot), gx_W gx_tb gx_tb.length E s σ τ H locs → lv_has ls 4 [(0, .ref (E.2.2 + 160)), (1, .int x1), (2, .int x2), (3, .int x3)] → W P9 l e9 (gx_rm 6) s m9 av.toArray below meth C9 H locs 0 0 (gq_Qi below av s E r σ1 τ1) (F0 m9 31 ls []) := by
  intro n
  induction n with
  | zero => intro σ τ x1 x2 x3 r σ1 τ1 h; cases h
  | succ n ih =>
    intro σ τ x1 x2 x3 r σ1 τ1 h H locs ls hw hl
    exact k_X9_mostLeft_31 l S hr hlk hK N (H_X9_mostLeft_31 N n) (fun σ τ x1 x2 x3 r σ1 τ1 H locs ls h hw hl => ih σ τ x1 x2 x3 r σ1 τ1 h H locs ls hw hl) σ τ x1 x2 x3 h hw hl
set_option maxHeartbeats 4000000 in
set_option maxRecDepth 100000 in
theorem k_X9_mostLeft_6 (l : Launch) (S : CallFix P9 m9 C9 cX9_mostLeft 4 s av.toArray gx_G RX9) (hr : meth.sig.returnType = (some .int)) (hlk : meth.locks = false) (hK : gx_K E s) (N : Nat) (rec_6 : gI → gJ → Int32 → Option (Int32 × gI × gJ)) (hrec_6 : ∀ (σ : gI) (τ : gJ) (x1 : Int32) (r : Int32) (σ1 : gI) (τ1 : gJ) (H : Heap) (locs : List Loc) (ls : Array Slot), rec_6 σ τ x1 = some (r, σ1, τ1) → gx_W gx_tb gx_tb.length E s σ τ H locs → lv_has ls 4 [(0, .ref (E.2.2 + 160)), (1, .int x1)] → W P9 l e9 (gx_rm 6) s m9 av.toArray below meth C9 H locs 0 0 (gq_Qi below av s E r σ1 τ1) (F0 m9 6 ls [])) (σ : gI) (τ : gJ) (x1 : Int32) {r : Int32} {σ1 : gI} {τ1 : gJ} (h : C_X9_mostLeft_6 N rec_6 σ τ x1 = some (r, σ1, τ1)) {H : Heap} {locs : List Loc} {ls : Array Slot} (hw : gx_W gx_tb gx_tb.length E s σ τ H locs) (hl : lv_has ls 4 [(0, .ref (E.2.2 + 160)), (1, .int x1)]) : W P9 l e9 (gx_rm 6) s m9 av.toArray below meth C9 H locs 0 0 (gq_Qi below av s E r σ1 τ1) (F0 m9 6 ls []) := by
  have hx := S.1
  have hb := S.2.1
  unfold C_X9_mostLeft_6 at h
  refine lv_iload_n hx hb dX9_mostLeft_6 rfl (lv_at hl 1 rfl) ?_
  refine lv_bipush (v := 12) hx hb dX9_mostLeft_7 (by decide) ?_
  refine lv_icmp_gt (tgt := 25) hx hb dX9_mostLeft_9 (by decide) (fun c_1 => ?_) (fun c_1 => ?_)
  · rw [if_pos c_1] at h
    refine lv_iconst (v := 0) hx hb dX9_mostLeft_25 (by decide) ?_
    refine lv_istore_n (lv' := [(1, .int 0), (0, .ref (E.2.2 + 160))]) hx hb dX9_mostLeft_26 rfl hl (by decide) rfl (fun ls hl => ?_)
    refine lv_iconst (v := 0) hx hb dX9_mostLeft_27 (by decide) ?_
    refine lv_istore_n (lv' := [(2, .int 0), (1, .int 0), (0, .ref (E.2.2 + 160))]) hx hb dX9_mostLeft_28 rfl hl (by decide) rfl (fun ls hl => ?_)
    refine lv_iconst (v := 0) hx hb dX9_mostLeft_29 (by decide) ?_
    refine lv_istore_n (lv' := [(3, .int 0), (2, .int 0), (1, .int 0), (0, .ref (E.2.2 + 160))]) hx hb dX9_mostLeft_30 rfl hl (by decide) rfl (fun ls hl => ?_)
    exact h_X9_mostLeft_31 l S hr hlk hK N N σ τ 0 0 0 _ _ _ h _ _ _ hw (lv_sub hl [3, 2, 1, 0] rfl)
  · rw [if_neg c_1] at h
    refine lv_aload_n hx hb dX9_mostLeft_12 rfl (lv_at hl 0 rfl) ?_
    refine gx_getr (j := 163) S hK hw t_160 cl_10 4 (by decide) rfl mw_420 rfl dX9_mostLeft_13 ?_
    refine lv_iload_n hx hb dX9_mostLeft_16 rfl (lv_at hl 1 rfl) ?_
    refine lv_iconst (v := 0) hx hb dX9_mostLeft_17 (by decide) ?_
    obtain ⟨j_2, hj_2, hi_2, h⟩ := ck_some h
    refine gx_iast S hK gx_ok hw t_163 j_2 hj_2 hi_2 dX9_mostLeft_18 (fun H locs hw => ?_)
    obtain ⟨σ_3, e_3, h⟩ := nm_some h
    rw [← e_3] at hw
    refine lv_iinc (v := x1 + 1) (lv' := [(1, .int (x1 + 1)), (0, .ref (E.2.2 + 160))]) hx hb dX9_mostLeft_19 hl (k := 1) rfl rfl (by decide) rfl (fun ls hl => ?_)
    obtain ⟨v_4, e_4, h⟩ := nm_some h
    have hl : lv_has ls 4 [(1, .int v_4), (0, .ref (E.2.2 + 160))] := by rw [e_4]; exact hl
    refine lv_goto (tgt := 6) hx hb dX9_mostLeft_22 (by decide) ?_
    exact hrec_6 σ_3 τ v_4 _ _ _ _ _ _ h hw (lv_sub hl [1, 0] rfl)
set_option maxHeartbeats 4000000 in
set_option maxRecDepth 100000 in
theorem h_X9_mostLeft_6 (l : Launch) (S : CallFix P9 m9 C9 cX9_mostLeft 4 s av.toArray gx_G RX9) (hr : meth.sig.returnType = (some .int)) (hlk : meth.locks = false) (hK : gx_K E s) (N : Nat) : ∀ (n : Nat) (σ : gI) (τ : gJ) (x1 : Int32) (r : Int32) (σ1 : gI) (τ1 : gJ), H_X9_mostLeft_6 N n σ τ x1 = some (r, σ1, τ1) → ∀ (H : Heap) (locs : List Loc) (ls : Array Slot), gx_W gx_tb gx_tb.length E s σ τ H locs → lv_has ls 4 [(0, .ref (E.2.2 + 160)), (1, .int x1)] → W P9 l e9 (gx_rm 6) s m9 av.toArray below meth C9 H locs 0 0 (gq_Qi below av s E r σ1 τ1) (F0 m9 6 ls []) := by
  intro n
  induction n with
  | zero => intro σ τ x1 r σ1 τ1 h; cases h
  | succ n ih =>
    intro σ τ x1 r σ1 τ1 h H locs ls hw hl
    exact k_X9_mostLeft_6 l S hr hlk hK N (H_X9_mostLeft_6 N n) (fun σ τ x1 r σ1 τ1 H locs ls h hw hl => ih σ τ x1 r σ1 τ1 h H locs ls hw hl) σ τ x1 h hw hl
set_option maxHeartbeats 4000000 in
set_option maxRecDepth 100000 in
theorem b_X9_mostLeft_0 (l : Launch) (S : CallFix P9 m9 C9 cX9_mostLeft 4 s av.toArray gx_G RX9) (hr : meth.sig.returnType = (some .int)) (hlk : meth.locks = false) (hK : gx_K E s) (N : Nat) (σ : gI) (τ : gJ) {r : Int32} {σ1 : gI} {τ1 : gJ} (h : B_X9_mostLeft_0 N σ τ = some (r, σ1, τ1)) {H : Heap} {locs : List Loc} {ls : Array Slot} (hw : gx_W gx_tb gx_tb.length E s σ τ H locs) (hl : lv_has ls 4 [(0, .ref (E.2.2 + 160))]) : W P9 l e9 (gx_rm 6) s m9 av.toArray below meth C9 H locs 0 0 (gq_Qi below av s E r σ1 τ1) (F0 m9 0 ls []) := by
  have hx := S.1
  have hb := S.2.1
  unfold B_X9_mostLeft_0 at h
  refine lv_aload_n hx hb dX9_mostLeft_0 rfl (lv_at hl 0 rfl) ?_
  obtain ⟨u_1, σ_1, τ_1, q_1, h⟩ := bd_some h
  refine gx_cVv (As := []) (rest := []) S hK gx_ok hw (c_X9_forgetSets l (E := E) N σ τ q_1) cw_X9_146 t_160 cl_10 ⟨Nat.le_of_ble_eq_true rfl, Nat.le_of_ble_eq_true rfl⟩ rfl hl.1 rfl (Nat.le_of_ble_eq_true rfl) ⟨Nat.le_of_ble_eq_true rfl, Nat.le_of_ble_eq_true rfl⟩ dX9_mostLeft_1 (fun σ9 τ9 H locs hp hw => ?_)
  obtain ⟨rfl, rfl⟩ := hp
  refine lv_iconst (v := 0) hx hb dX9_mostLeft_4 (by decide) ?_
  refine lv_istore_n (lv' := [(1, .int 0), (0, .ref (E.2.2 + 160))]) hx hb dX9_mostLeft_5 rfl hl (by decide) rfl (fun ls hl => ?_)
  exact h_X9_mostLeft_6 l S hr hlk hK N N σ_1 τ_1 0 _ _ _ h _ _ _ hw (lv_sub hl [1, 0] rfl)
set_option maxHeartbeats 4000000 in
set_option maxRecDepth 100000 in
theorem c_X9_mostLeft (l : Launch) {E : gE} (N : Nat) (σ : gI) (τ : gJ) {r : Int32} {σ1 : gI} {τ1 : gJ} (h : B_X9_mostLeft_0 N σ τ = some (r, σ1, τ1)) : gx_Mi l yX9_mostLeft cX9_mostLeft 4 (some .int) 6 gx_tb E σ τ [.ref (E.2.2 + 160)] (gq_p r σ1 τ1) := by
  refine gx_bi (by decide +kernel) (Nat.le_of_ble_eq_true rfl) ?_
  intro P9 e9 s m9 below meth C9 S hr hlk hK hw ls hl
  have hl : lv_has ls 4 [(0, .ref (E.2.2 + 160))] := hl
  exact b_X9_mostLeft_0 l S hr hlk hK N σ τ h hw hl
/-! X11_next -/
def C_X11_next_32 (N : Nat) (rec_32 : gI → gJ → Int32 → Int32 → Int32 → Int32 → Option (Int32 × gI × gJ)) (σ : gI) (τ : gJ) (x1 : Int32) (x2 : Int32) (x3 : Int32) (x4 : Int32) : Option (Int32 × gI × gJ) := if σ 3 6 ≤ x4 then (if x3 = 0 then (some ((-2), σ, τ)) else (bd (B_X4_tell_0 N σ τ x3.toInt64) fun _ σ_3 τ_3 => some (x2, σ_3, τ_3))) else (bd (B_X9_thinkOf_0 N σ τ x4 99 0 0 x1) fun _ σ_4 τ_4 => bd (B_X9_mostLeft_0 N σ_4 τ_4) fun r_5 σ_5 τ_5 => if x3 ≤ r_5 then (nm (x4 + 1) fun v_7 => rec_32 σ_5 τ_5 x1 x2 x3 v_7) else (nm (x4 + 1) fun v_8 => rec_32 σ_5 τ_5 x1 x4 r_5 v_8))
def H_X11_next_32 (N : Nat) : Nat → gI → gJ → Int32 → Int32 → Int32 → Int32 → Option (Int32 × gI × gJ) := itn (fun rec_32 => C_X11_next_32 N rec_32) (fun _ _ _ _ _ _ => none)
def B_X11_next_0 (N : Nat) (σ : gI) (τ : gJ) (x1 : Int32) : Option (Int32 × gI × gJ) := if σ 3 6 = 0 then (some ((-1), σ, τ)) else (bd (B_X11_isCorkMinute_0 N σ τ x1) fun r_2 σ_2 τ_2 => if r_2 = 0 then (some ((-1), σ_2, τ_2)) else (bd (B_X11_findFits_0 N σ_2 τ_2) fun _ σ_4 τ_4 => H_X11_next_32 N N σ_4 τ_4 x1 (-1) 4097 0))
set_option maxHeartbeats 4000000 in
set_option maxRecDepth 100000 in
theorem k_X11_next_32 (l : Launch) (S : CallFix P9 m9 C9 cX11_next 6 s av.toArray gx_G RX11) (hr : meth.sig.returnType = (some .int)) (hlk : meth.locks = false) (hK : gx_K E s) (N : Nat) (rec_32 : gI → gJ → Int32 → Int32 → Int32 → Int32 → Option (Int32 × gI × gJ)) (hrec_32 : ∀ (σ : gI) (τ : gJ) (x1 : Int32) (x2 : Int32) (x3 : Int32) (x4 : Int32) (r : Int32) (σ1 : gI) (τ1 : gJ) (H : Heap) (locs : List Loc) (ls : Array Slot), rec_32 σ τ x1 x2 x3 x4 = some (r, σ1, τ1) → gx_W gx_tb gx_tb.length E s σ τ H locs → lv_has ls 6 [(0, .ref (E.2.2 + 0)), (1, .int x1), (2, .int x2), (3, .int x3), (4, .int x4)] → W P9 l e9 (gx_rm 7) s m9 av.toArray below meth C9 H locs 0 0 (gq_Qi below av s E r σ1 τ1) (F0 m9 32 ls [])) (σ : gI) (τ : gJ) (x1 : Int32) (x2 : Int32) (x3 : Int32) (x4 : Int32) {r : Int32} {σ1 : gI} {τ1 : gJ} (h : C_X11_next_32 N rec_32 σ τ x1 x2 x3 x4 = some (r, σ1, τ1)) {H : Heap} {locs : List Loc} {ls : Array Slot} (hw : gx_W gx_tb gx_tb.length E s σ τ H locs) (hl : lv_has ls 6 [(0, .ref (E.2.2 + 0)), (1, .int x1), (2, .int x2), (3, .int x3), (4, .int x4)]) : W P9 l e9 (gx_rm 7) s m9 av.toArray below meth C9 H locs 0 0 (gq_Qi below av s E r σ1 τ1) (F0 m9 32 ls []) := by
  have hx := S.1
  have hb := S.2.1
  unfold C_X11_next_32 at h
  refine lv_iload hx hb dX11_next_32 (lv_at hl 4 rfl) ?_
  refine lv_aload_n hx hb dX11_next_34 rfl (lv_at hl 0 rfl) ?_
  refine gx_getr (j := 3) S hK hw t_0 cl_12 1 (by decide) rfl mw_448 rfl dX11_next_35 ?_
  refine gx_get S hK hw t_3 cl_9 6 (by decide) rfl mw_155 rfl dX11_next_38 ?_
  refine lv_icmp_ge (tgt := 85) hx hb dX11_next_41 (by decide) (fun c_1 => ?_) (fun c_1 => ?_)
  · rw [if_pos c_1] at h
    refine lv_iload_n hx hb dX11_next_85 rfl (lv_at hl 3 rfl) ?_
    refine lv_if_ne (tgt := 92) hx hb dX11_next_86 (by decide) (fun c_2 => ?_) (fun c_2 => ?_)
    · rw [if_neg c_2] at h
      refine lv_aload_n hx hb dX11_next_92 rfl (lv_at hl 0 rfl) ?_
      refine gx_getr (j := 156) S hK hw t_0 cl_12 13 (by decide) rfl mw_460 rfl dX11_next_93 ?_
      refine lv_iload_n hx hb dX11_next_96 rfl (lv_at hl 3 rfl) ?_
      refine lv_i2l (v := x3.toInt64) hx hb dX11_next_97 rfl ?_
      obtain ⟨u_3, σ_3, τ_3, q_3, h⟩ := bd_some h
      refine gx_cVv (As := [.long x3.toInt64]) (rest := []) S hK gx_ok hw (c_X4_tell l (E := E) N σ τ x3.toInt64 q_3) cw_X11_307 t_156 cl_5 ⟨Nat.le_of_ble_eq_true rfl, Nat.le_of_ble_eq_true rfl⟩ rfl hl.1 rfl (Nat.le_of_ble_eq_true rfl) ⟨Nat.le_of_ble_eq_true rfl, Nat.le_of_ble_eq_true rfl⟩ dX11_next_98 (fun σ9 τ9 H locs hp hw => ?_)
      obtain ⟨rfl, rfl⟩ := hp
      refine lv_iload_n hx hb dX11_next_101 rfl (lv_at hl 2 rfl) ?_
      obtain ⟨rfl, rfl, rfl⟩ := sm_inj h
      exact gx_ri (post := gq_p x2 σ_3 τ_3) (v := x2) S hr hlk hw rfl dX11_next_102 ⟨rfl, rfl, rfl⟩
    · rw [if_pos c_2] at h
      refine lv_bipush (v := (-2)) hx hb dX11_next_89 (by decide) ?_
      obtain ⟨rfl, rfl, rfl⟩ := sm_inj h
      exact gx_ri (post := gq_p (-2) σ τ) (v := (-2)) S hr hlk hw rfl dX11_next_91 ⟨rfl, rfl, rfl⟩
  · rw [if_neg c_1] at h
    refine lv_aload_n hx hb dX11_next_44 rfl (lv_at hl 0 rfl) ?_
    refine gx_getr (j := 160) S hK hw t_0 cl_12 15 (by decide) rfl mw_462 rfl dX11_next_45 ?_
    refine lv_iload hx hb dX11_next_48 (lv_at hl 4 rfl) ?_
    refine lv_bipush (v := 99) hx hb dX11_next_50 (by decide) ?_
    refine lv_iconst (v := 0) hx hb dX11_next_52 (by decide) ?_
    refine lv_iconst (v := 0) hx hb dX11_next_53 (by decide) ?_
    refine lv_iload_n hx hb dX11_next_54 rfl (lv_at hl 1 rfl) ?_
    obtain ⟨u_4, σ_4, τ_4, q_4, h⟩ := bd_some h
    refine gx_cVv (As := [.int x4, .int 99, .int 0, .int 0, .int x1]) (rest := []) S hK gx_ok hw (c_X9_thinkOf l (E := E) N σ τ x4 99 0 0 x1 q_4) cw_X11_327 t_160 cl_10 ⟨Nat.le_of_ble_eq_true rfl, Nat.le_of_ble_eq_true rfl⟩ rfl hl.1 rfl (Nat.le_of_ble_eq_true rfl) ⟨Nat.le_of_ble_eq_true rfl, Nat.le_of_ble_eq_true rfl⟩ dX11_next_55 (fun σ9 τ9 H locs hp hw => ?_)
    obtain ⟨rfl, rfl⟩ := hp
    refine lv_aload_n hx hb dX11_next_58 rfl (lv_at hl 0 rfl) ?_
    refine gx_getr (j := 160) S hK hw t_0 cl_12 15 (by decide) rfl mw_462 rfl dX11_next_59 ?_
    obtain ⟨r_5, σ_5, τ_5, q_5, h⟩ := bd_some h
    refine gx_cVi (As := []) (rest := []) S hK gx_ok hw (c_X9_mostLeft l (E := E) N σ_4 τ_4 q_5) cw_X11_381 t_160 cl_10 ⟨Nat.le_of_ble_eq_true rfl, Nat.le_of_ble_eq_true rfl⟩ rfl hl.1 rfl (Nat.le_of_ble_eq_true rfl) ⟨Nat.le_of_ble_eq_true rfl, Nat.le_of_ble_eq_true rfl⟩ dX11_next_62 (fun r9 σ9 τ9 H locs hp hw => ?_)
    obtain ⟨rfl, rfl, rfl⟩ := hp
    refine lv_istore (lv' := [(5, .int r_5), (0, .ref (E.2.2 + 0)), (1, .int x1), (2, .int x2), (3, .int x3), (4, .int x4)]) hx hb dX11_next_65 hl (by decide) rfl (fun ls hl => ?_)
    refine lv_iload hx hb dX11_next_67 (lv_at hl 0 rfl) ?_
    refine lv_iload_n hx hb dX11_next_69 rfl (lv_at hl 4 rfl) ?_
    refine lv_icmp_ge (tgt := 79) hx hb dX11_next_70 (by decide) (fun c_6 => ?_) (fun c_6 => ?_)
    · rw [if_pos c_6] at h
      refine lv_iinc (v := x4 + 1) (lv' := [(4, .int (x4 + 1)), (5, .int r_5), (0, .ref (E.2.2 + 0)), (1, .int x1), (2, .int x2), (3, .int x3)]) hx hb dX11_next_79 hl (k := 5) rfl rfl (by decide) rfl (fun ls hl => ?_)
      obtain ⟨v_7, e_7, h⟩ := nm_some h
      have hl : lv_has ls 6 [(4, .int v_7), (5, .int r_5), (0, .ref (E.2.2 + 0)), (1, .int x1), (2, .int x2), (3, .int x3)] := by rw [e_7]; exact hl
      refine lv_goto (tgt := 32) hx hb dX11_next_82 (by decide) ?_
      exact hrec_32 σ_5 τ_5 x1 x2 x3 v_7 _ _ _ _ _ _ h hw (lv_sub hl [2, 3, 4, 5, 0] rfl)
    · rw [if_neg c_6] at h
      refine lv_iload hx hb dX11_next_73 (lv_at hl 0 rfl) ?_
      refine lv_istore_n (lv' := [(3, .int r_5), (5, .int r_5), (0, .ref (E.2.2 + 0)), (1, .int x1), (2, .int x2), (4, .int x4)]) hx hb dX11_next_75 rfl hl (by decide) rfl (fun ls hl => ?_)
      refine lv_iload hx hb dX11_next_76 (lv_at hl 5 rfl) ?_
      refine lv_istore_n (lv' := [(2, .int x4), (3, .int r_5), (5, .int r_5), (0, .ref (E.2.2 + 0)), (1, .int x1), (4, .int x4)]) hx hb dX11_next_78 rfl hl (by decide) rfl (fun ls hl => ?_)
      refine lv_iinc (v := x4 + 1) (lv' := [(4, .int (x4 + 1)), (2, .int x4), (3, .int r_5), (5, .int r_5), (0, .ref (E.2.2 + 0)), (1, .int x1)]) hx hb dX11_next_79 hl (k := 5) rfl rfl (by decide) rfl (fun ls hl => ?_)
      obtain ⟨v_8, e_8, h⟩ := nm_some h
      have hl : lv_has ls 6 [(4, .int v_8), (2, .int x4), (3, .int r_5), (5, .int r_5), (0, .ref (E.2.2 + 0)), (1, .int x1)] := by rw [e_8]; exact hl
      refine lv_goto (tgt := 32) hx hb dX11_next_82 (by decide) ?_
      exact hrec_32 σ_5 τ_5 x1 x4 r_5 v_8 _ _ _ _ _ _ h hw (lv_sub hl [4, 5, 1, 2, 0] rfl)
set_option maxHeartbeats 4000000 in
set_option maxRecDepth 100000 in
theorem h_X11_next_32 (l : Launch) (S : CallFix P9 m9 C9 cX11_next 6 s av.toArray gx_G RX11) (hr : meth.sig.returnType = (some .int)) (hlk : meth.locks = false) (hK : gx_K E s) (N : Nat) : ∀ (n : Nat) (σ : gI) (τ : gJ) (x1 : Int32) (x2 : Int32) (x3 : Int32) (x4 : Int32) (r : Int32) (σ1 : gI) (τ1 : gJ), H_X11_next_32 N n σ τ x1 x2 x3 x4 = some (r, σ1, τ1) → ∀ (H : Heap) (locs : List Loc) (ls : Array Slot), gx_W gx_tb gx_tb.length E s σ τ H locs → lv_has ls 6 [(0, .ref (E.2.2 + 0)), (1, .int x1), (2, .int x2), (3, .int x3), (4, .int x4)] → W P9 l e9 (gx_rm 7) s m9 av.toArray below meth C9 H locs 0 0 (gq_Qi below av s E r σ1 τ1) (F0 m9 32 ls []) := by
  intro n
  induction n with
  | zero => intro σ τ x1 x2 x3 x4 r σ1 τ1 h; cases h
  | succ n ih =>
    intro σ τ x1 x2 x3 x4 r σ1 τ1 h H locs ls hw hl
    exact k_X11_next_32 l S hr hlk hK N (H_X11_next_32 N n) (fun σ τ x1 x2 x3 x4 r σ1 τ1 H locs ls h hw hl => ih σ τ x1 x2 x3 x4 r σ1 τ1 h H locs ls hw hl) σ τ x1 x2 x3 x4 h hw hl
set_option maxHeartbeats 4000000 in
set_option maxRecDepth 100000 in
theorem b_X11_next_0 (l : Launch) (S : CallFix P9 m9 C9 cX11_next 6 s av.toArray gx_G RX11) (hr : meth.sig.returnType = (some .int)) (hlk : meth.locks = false) (hK : gx_K E s) (N : Nat) (σ : gI) (τ : gJ) (x1 : Int32) {r : Int32} {σ1 : gI} {τ1 : gJ} (h : B_X11_next_0 N σ τ x1 = some (r, σ1, τ1)) {H : Heap} {locs : List Loc} {ls : Array Slot} (hw : gx_W gx_tb gx_tb.length E s σ τ H locs) (hl : lv_has ls 6 [(0, .ref (E.2.2 + 0)), (1, .int x1)]) : W P9 l e9 (gx_rm 7) s m9 av.toArray below meth C9 H locs 0 0 (gq_Qi below av s E r σ1 τ1) (F0 m9 0 ls []) := by
  have hx := S.1
  have hb := S.2.1
  unfold B_X11_next_0 at h
  refine lv_aload_n hx hb dX11_next_0 rfl (lv_at hl 0 rfl) ?_
  refine gx_getr (j := 3) S hK hw t_0 cl_12 1 (by decide) rfl mw_448 rfl dX11_next_1 ?_
  refine gx_get S hK hw t_3 cl_9 6 (by decide) rfl mw_155 rfl dX11_next_4 ?_
  refine lv_if_eq (tgt := 17) hx hb dX11_next_7 (by decide) (fun c_1 => ?_) (fun c_1 => ?_)
  · rw [if_pos c_1] at h
    refine lv_iconst (v := (-1)) hx hb dX11_next_17 (by decide) ?_
    obtain ⟨rfl, rfl, rfl⟩ := sm_inj h
    exact gx_ri (post := gq_p (-1) σ τ) (v := (-1)) S hr hlk hw rfl dX11_next_18 ⟨rfl, rfl, rfl⟩
  · rw [if_neg c_1] at h
    refine lv_iload_n hx hb dX11_next_10 rfl (lv_at hl 1 rfl) ?_
    obtain ⟨r_2, σ_2, τ_2, q_2, h⟩ := bd_some h
    refine gx_cSi (As := [.int x1]) (rest := []) S hK gx_ok hw (c_X11_isCorkMinute l (E := E) N σ τ x1 q_2) cw_X11_366 ⟨Nat.le_of_ble_eq_true rfl, Nat.le_of_ble_eq_true rfl⟩ rfl hl.1 rfl (Nat.le_of_ble_eq_true rfl) ⟨Nat.le_of_ble_eq_true rfl, Nat.le_of_ble_eq_true rfl⟩ dX11_next_11 (fun r9 σ9 τ9 H locs hp hw => ?_)
    obtain ⟨rfl, rfl, rfl⟩ := hp
    refine lv_if_ne (tgt := 19) hx hb dX11_next_14 (by decide) (fun c_3 => ?_) (fun c_3 => ?_)
    · rw [if_neg c_3] at h
      refine lv_aload_n hx hb dX11_next_19 rfl (lv_at hl 0 rfl) ?_
      obtain ⟨u_4, σ_4, τ_4, q_4, h⟩ := bd_some h
      refine gx_cVv (As := []) (rest := []) S hK gx_ok hw (c_X11_findFits l (E := E) N σ_2 τ_2 q_4) cw_X11_372 t_0 cl_12 ⟨Nat.le_of_ble_eq_true rfl, Nat.le_of_ble_eq_true rfl⟩ rfl hl.1 rfl (Nat.le_of_ble_eq_true rfl) ⟨Nat.le_of_ble_eq_true rfl, Nat.le_of_ble_eq_true rfl⟩ dX11_next_20 (fun σ9 τ9 H locs hp hw => ?_)
      obtain ⟨rfl, rfl⟩ := hp
      refine lv_iconst (v := (-1)) hx hb dX11_next_23 (by decide) ?_
      refine lv_istore_n (lv' := [(2, .int (-1)), (0, .ref (E.2.2 + 0)), (1, .int x1)]) hx hb dX11_next_24 rfl hl (by decide) rfl (fun ls hl => ?_)
      refine lv_sipush (v := 4097) hx hb dX11_next_25 (by decide) ?_
      refine lv_istore_n (lv' := [(3, .int 4097), (2, .int (-1)), (0, .ref (E.2.2 + 0)), (1, .int x1)]) hx hb dX11_next_28 rfl hl (by decide) rfl (fun ls hl => ?_)
      refine lv_iconst (v := 0) hx hb dX11_next_29 (by decide) ?_
      refine lv_istore (lv' := [(4, .int 0), (3, .int 4097), (2, .int (-1)), (0, .ref (E.2.2 + 0)), (1, .int x1)]) hx hb dX11_next_30 hl (by decide) rfl (fun ls hl => ?_)
      exact h_X11_next_32 l S hr hlk hK N N σ_4 τ_4 x1 (-1) 4097 0 _ _ _ h _ _ _ hw (lv_sub hl [3, 4, 2, 1, 0] rfl)
    · rw [if_pos c_3] at h
      refine lv_iconst (v := (-1)) hx hb dX11_next_17 (by decide) ?_
      obtain ⟨rfl, rfl, rfl⟩ := sm_inj h
      exact gx_ri (post := gq_p (-1) σ_2 τ_2) (v := (-1)) S hr hlk hw rfl dX11_next_18 ⟨rfl, rfl, rfl⟩
set_option maxHeartbeats 4000000 in
set_option maxRecDepth 100000 in
theorem c_X11_next (l : Launch) {E : gE} (N : Nat) (σ : gI) (τ : gJ) (x1 : Int32) {r : Int32} {σ1 : gI} {τ1 : gJ} (h : B_X11_next_0 N σ τ x1 = some (r, σ1, τ1)) : gx_Mi l yX11_next cX11_next 6 (some .int) 7 gx_tb E σ τ [.ref (E.2.2 + 0), .int x1] (gq_p r σ1 τ1) := by
  refine gx_bi (by decide +kernel) (Nat.le_of_ble_eq_true rfl) ?_
  intro P9 e9 s m9 below meth C9 S hr hlk hK hw ls hl
  have hl : lv_has ls 6 [(0, .ref (E.2.2 + 0)), (1, .int x1)] := hl
  exact b_X11_next_0 l S hr hlk hK N σ τ x1 h hw hl
/-! X11_weightOf -/
def C_X11_weightOf_5 (N : Nat) (rec_5 : gI → gJ → Int32 → Int32 → Int32 → Int32 → Int32 → Option (Int32 × gI × gJ)) (σ : gI) (τ : gJ) (x0 : Int32) (x1 : Int32) (x2 : Int32) (x3 : Int32) (x4 : Int32) : Option (Int32 × gI × gJ) := if x1 ≤ x4 then (some (x3, σ, τ)) else (if (x0 >>> (x4 &&& 31)) &&& 1 = 0 then (nm (x3 * (10 - x2)) fun v_3 => nm (x4 + 1) fun v_4 => rec_5 σ τ x0 x1 x2 v_3 v_4) else (nm (x3 * x2) fun v_5 => nm (x4 + 1) fun v_6 => rec_5 σ τ x0 x1 x2 v_5 v_6))
def H_X11_weightOf_5 (N : Nat) : Nat → gI → gJ → Int32 → Int32 → Int32 → Int32 → Int32 → Option (Int32 × gI × gJ) := itn (fun rec_5 => C_X11_weightOf_5 N rec_5) (fun _ _ _ _ _ _ _ => none)
def B_X11_weightOf_0 (N : Nat) (σ : gI) (τ : gJ) (x0 : Int32) (x1 : Int32) (x2 : Int32) : Option (Int32 × gI × gJ) := H_X11_weightOf_5 N N σ τ x0 x1 x2 1 0
set_option maxHeartbeats 4000000 in
set_option maxRecDepth 100000 in
theorem k_X11_weightOf_5 (l : Launch) (S : CallFix P9 m9 C9 cX11_weightOf 5 s av.toArray gx_G RX11) (hr : meth.sig.returnType = (some .int)) (hlk : meth.locks = false) (hK : gx_K E s) (N : Nat) (rec_5 : gI → gJ → Int32 → Int32 → Int32 → Int32 → Int32 → Option (Int32 × gI × gJ)) (hrec_5 : ∀ (σ : gI) (τ : gJ) (x0 : Int32) (x1 : Int32) (x2 : Int32) (x3 : Int32) (x4 : Int32) (r : Int32) (σ1 : gI) (τ1 : gJ) (H : Heap) (locs : List Loc) (ls : Array Slot), rec_5 σ τ x0 x1 x2 x3 x4 = some (r, σ1, τ1) → gx_W gx_tb gx_tb.length E s σ τ H locs → lv_has ls 5 [(0, .int x0), (1, .int x1), (2, .int x2), (3, .int x3), (4, .int x4)] → W P9 l e9 (gx_rm 0) s m9 av.toArray below meth C9 H locs 0 0 (gq_Qi below av s E r σ1 τ1) (F0 m9 5 ls [])) (σ : gI) (τ : gJ) (x0 : Int32) (x1 : Int32) (x2 : Int32) (x3 : Int32) (x4 : Int32) {r : Int32} {σ1 : gI} {τ1 : gJ} (h : C_X11_weightOf_5 N rec_5 σ τ x0 x1 x2 x3 x4 = some (r, σ1, τ1)) {H : Heap} {locs : List Loc} {ls : Array Slot} (hw : gx_W gx_tb gx_tb.length E s σ τ H locs) (hl : lv_has ls 5 [(0, .int x0), (1, .int x1), (2, .int x2), (3, .int x3), (4, .int x4)]) : W P9 l e9 (gx_rm 0) s m9 av.toArray below meth C9 H locs 0 0 (gq_Qi below av s E r σ1 τ1) (F0 m9 5 ls []) := by
  have hx := S.1
  have hb := S.2.1
  unfold C_X11_weightOf_5 at h
  refine lv_iload hx hb dX11_weightOf_5 (lv_at hl 4 rfl) ?_
  refine lv_iload_n hx hb dX11_weightOf_7 rfl (lv_at hl 1 rfl) ?_
  refine lv_icmp_ge (tgt := 37) hx hb dX11_weightOf_8 (by decide) (fun c_1 => ?_) (fun c_1 => ?_)
  · rw [if_pos c_1] at h
    refine lv_iload_n hx hb dX11_weightOf_37 rfl (lv_at hl 3 rfl) ?_
    obtain ⟨rfl, rfl, rfl⟩ := sm_inj h
    exact gx_ri (post := gq_p x3 σ τ) (v := x3) S hr hlk hw rfl dX11_weightOf_38 ⟨rfl, rfl, rfl⟩
  · rw [if_neg c_1] at h
    refine lv_iload_n hx hb dX11_weightOf_11 rfl (lv_at hl 3 rfl) ?_
    refine lv_iload_n hx hb dX11_weightOf_12 rfl (lv_at hl 0 rfl) ?_
    refine lv_iload hx hb dX11_weightOf_13 (lv_at hl 4 rfl) ?_
    refine lv_ishr hx hb dX11_weightOf_15 ?_
    refine lv_iconst (v := 1) hx hb dX11_weightOf_16 (by decide) ?_
    refine lv_iand hx hb dX11_weightOf_17 ?_
    refine lv_if_eq (tgt := 25) hx hb dX11_weightOf_18 (by decide) (fun c_2 => ?_) (fun c_2 => ?_)
    · rw [if_pos c_2] at h
      refine lv_bipush (v := 10) hx hb dX11_weightOf_25 (by decide) ?_
      refine lv_iload_n hx hb dX11_weightOf_27 rfl (lv_at hl 2 rfl) ?_
      refine lv_isub hx hb dX11_weightOf_28 ?_
      refine lv_imul hx hb dX11_weightOf_29 ?_
      refine lv_istore_n (lv' := [(3, .int (x3 * (10 - x2))), (0, .int x0), (1, .int x1), (2, .int x2), (4, .int x4)]) hx hb dX11_weightOf_30 rfl hl (by decide) rfl (fun ls hl => ?_)
      obtain ⟨v_3, e_3, h⟩ := nm_some h
      have hl : lv_has ls 5 [(3, .int v_3), (0, .int x0), (1, .int x1), (2, .int x2), (4, .int x4)] := by rw [e_3]; exact hl
      refine lv_iinc (v := x4 + 1) (lv' := [(4, .int (x4 + 1)), (3, .int v_3), (0, .int x0), (1, .int x1), (2, .int x2)]) hx hb dX11_weightOf_31 hl (k := 4) rfl rfl (by decide) rfl (fun ls hl => ?_)
      obtain ⟨v_4, e_4, h⟩ := nm_some h
      have hl : lv_has ls 5 [(4, .int v_4), (3, .int v_3), (0, .int x0), (1, .int x1), (2, .int x2)] := by rw [e_4]; exact hl
      refine lv_goto (tgt := 5) hx hb dX11_weightOf_34 (by decide) ?_
      exact hrec_5 σ τ x0 x1 x2 v_3 v_4 _ _ _ _ _ _ h hw (lv_sub hl [2, 3, 4, 1, 0] rfl)
    · rw [if_neg c_2] at h
      refine lv_iload_n hx hb dX11_weightOf_21 rfl (lv_at hl 2 rfl) ?_
      refine lv_goto (tgt := 29) hx hb dX11_weightOf_22 (by decide) ?_
      refine lv_imul hx hb dX11_weightOf_29 ?_
      refine lv_istore_n (lv' := [(3, .int (x3 * x2)), (0, .int x0), (1, .int x1), (2, .int x2), (4, .int x4)]) hx hb dX11_weightOf_30 rfl hl (by decide) rfl (fun ls hl => ?_)
      obtain ⟨v_5, e_5, h⟩ := nm_some h
      have hl : lv_has ls 5 [(3, .int v_5), (0, .int x0), (1, .int x1), (2, .int x2), (4, .int x4)] := by rw [e_5]; exact hl
      refine lv_iinc (v := x4 + 1) (lv' := [(4, .int (x4 + 1)), (3, .int v_5), (0, .int x0), (1, .int x1), (2, .int x2)]) hx hb dX11_weightOf_31 hl (k := 4) rfl rfl (by decide) rfl (fun ls hl => ?_)
      obtain ⟨v_6, e_6, h⟩ := nm_some h
      have hl : lv_has ls 5 [(4, .int v_6), (3, .int v_5), (0, .int x0), (1, .int x1), (2, .int x2)] := by rw [e_6]; exact hl
      refine lv_goto (tgt := 5) hx hb dX11_weightOf_34 (by decide) ?_
      exact hrec_5 σ τ x0 x1 x2 v_5 v_6 _ _ _ _ _ _ h hw (lv_sub hl [2, 3, 4, 1, 0] rfl)
set_option maxHeartbeats 4000000 in
set_option maxRecDepth 100000 in
theorem h_X11_weightOf_5 (l : Launch) (S : CallFix P9 m9 C9 cX11_weightOf 5 s av.toArray gx_G RX11) (hr : meth.sig.returnType = (some .int)) (hlk : meth.locks = false) (hK : gx_K E s) (N : Nat) : ∀ (n : Nat) (σ : gI) (τ : gJ) (x0 : Int32) (x1 : Int32) (x2 : Int32) (x3 : Int32) (x4 : Int32) (r : Int32) (σ1 : gI) (τ1 : gJ), H_X11_weightOf_5 N n σ τ x0 x1 x2 x3 x4 = some (r, σ1, τ1) → ∀ (H : Heap) (locs : List Loc) (ls : Array Slot), gx_W gx_tb gx_tb.length E s σ τ H locs → lv_has ls 5 [(0, .int x0), (1, .int x1), (2, .int x2), (3, .int x3), (4, .int x4)] → W P9 l e9 (gx_rm 0) s m9 av.toArray below meth C9 H locs 0 0 (gq_Qi below av s E r σ1 τ1) (F0 m9 5 ls []) := by
  intro n
  induction n with
  | zero => intro σ τ x0 x1 x2 x3 x4 r σ1 τ1 h; cases h
  | succ n ih =>
    intro σ τ x0 x1 x2 x3 x4 r σ1 τ1 h H locs ls hw hl
    exact k_X11_weightOf_5 l S hr hlk hK N (H_X11_weightOf_5 N n) (fun σ τ x0 x1 x2 x3 x4 r σ1 τ1 H locs ls h hw hl => ih σ τ x0 x1 x2 x3 x4 r σ1 τ1 h H locs ls hw hl) σ τ x0 x1 x2 x3 x4 h hw hl
set_option maxHeartbeats 4000000 in
set_option maxRecDepth 100000 in
theorem b_X11_weightOf_0 (l : Launch) (S : CallFix P9 m9 C9 cX11_weightOf 5 s av.toArray gx_G RX11) (hr : meth.sig.returnType = (some .int)) (hlk : meth.locks = false) (hK : gx_K E s) (N : Nat) (σ : gI) (τ : gJ) (x0 : Int32) (x1 : Int32) (x2 : Int32) {r : Int32} {σ1 : gI} {τ1 : gJ} (h : B_X11_weightOf_0 N σ τ x0 x1 x2 = some (r, σ1, τ1)) {H : Heap} {locs : List Loc} {ls : Array Slot} (hw : gx_W gx_tb gx_tb.length E s σ τ H locs) (hl : lv_has ls 5 [(0, .int x0), (1, .int x1), (2, .int x2)]) : W P9 l e9 (gx_rm 0) s m9 av.toArray below meth C9 H locs 0 0 (gq_Qi below av s E r σ1 τ1) (F0 m9 0 ls []) := by
  have hx := S.1
  have hb := S.2.1
  unfold B_X11_weightOf_0 at h
  refine lv_iconst (v := 1) hx hb dX11_weightOf_0 (by decide) ?_
  refine lv_istore_n (lv' := [(3, .int 1), (0, .int x0), (1, .int x1), (2, .int x2)]) hx hb dX11_weightOf_1 rfl hl (by decide) rfl (fun ls hl => ?_)
  refine lv_iconst (v := 0) hx hb dX11_weightOf_2 (by decide) ?_
  refine lv_istore (lv' := [(4, .int 0), (3, .int 1), (0, .int x0), (1, .int x1), (2, .int x2)]) hx hb dX11_weightOf_3 hl (by decide) rfl (fun ls hl => ?_)
  exact h_X11_weightOf_5 l S hr hlk hK N N σ τ x0 x1 x2 1 0 _ _ _ h _ _ _ hw (lv_sub hl [2, 3, 4, 1, 0] rfl)
set_option maxHeartbeats 4000000 in
set_option maxRecDepth 100000 in
theorem c_X11_weightOf (l : Launch) {E : gE} (N : Nat) (σ : gI) (τ : gJ) (x0 : Int32) (x1 : Int32) (x2 : Int32) {r : Int32} {σ1 : gI} {τ1 : gJ} (h : B_X11_weightOf_0 N σ τ x0 x1 x2 = some (r, σ1, τ1)) : gx_Mi l yX11_weightOf cX11_weightOf 5 (some .int) 0 gx_tb E σ τ [.int x0, .int x1, .int x2] (gq_p r σ1 τ1) := by
  refine gx_bi (by decide +kernel) (Nat.le_of_ble_eq_true rfl) ?_
  intro P9 e9 s m9 below meth C9 S hr hlk hK hw ls hl
  have hl : lv_has ls 5 [(0, .int x0), (1, .int x1), (2, .int x2)] := hl
  exact b_X11_weightOf_0 l S hr hlk hK N σ τ x0 x1 x2 h hw hl
/-! X11_odds -/
def C_X11_odds_124 (N : Nat) (rec_124 : gI → gJ → Int32 → Int32 → Int32 → Int32 → Int32 → Int32 → Int32 → Option (Int32 × gI × gJ)) (σ : gI) (τ : gJ) (x1 : Int32) (x2 : Int32) (x3 : Int32) (x5 : Int32) (x6 : Int32) (x7 : Int32) (x8 : Int32) : Option (Int32 × gI × gJ) := if 1 <<< (x5 &&& 31) ≤ x8 then (nm (up2 σ 158 8 0) fun σ_2 => bd (B_X11_commonDivisor_0 N σ_2 τ x6 x7) fun r_3 σ_3 τ_3 => dz r_3 <| dz r_3 <| bd (B_X4_tell__0 N σ_3 τ_3 ((x6 / r_3).toInt64) ((x7 / r_3).toInt64)) fun _ σ_6 τ_6 => some (0, σ_6, τ_6)) else (bd (B_X11_weightOf_0 N σ τ x8 x5 x3) fun r_7 σ_7 τ_7 => if r_7 ≤ 0 then (nm (x8 + 1) fun v_9 => rec_124 σ_7 τ_7 x1 x2 x3 x5 x6 x7 v_9) else (nm (up2 σ_7 158 8 x8) fun σ_10 => bd (B_X9_goOn_0 N σ_10 τ_7 x2) fun _ σ_11 τ_11 => bd (B_X6_fateOf_0 N 171 σ_11 τ_11 x1) fun r_12 σ_12 τ_12 => if r_12 = 1 then (nm (x6 + r_7) fun v_16 => nm (x8 + 1) fun v_17 => rec_124 σ_12 τ_12 x1 x2 x3 x5 v_16 x7 v_17) else (nm (x6 + 0) fun v_14 => nm (x8 + 1) fun v_15 => rec_124 σ_12 τ_12 x1 x2 x3 x5 v_14 x7 v_15)))
def H_X11_odds_124 (N : Nat) : Nat → gI → gJ → Int32 → Int32 → Int32 → Int32 → Int32 → Int32 → Int32 → Option (Int32 × gI × gJ) := itn (fun rec_124 => C_X11_odds_124 N rec_124) (fun _ _ _ _ _ _ _ _ _ => none)
def C_X11_odds_92 (N : Nat) (rec_92 : gI → gJ → Int32 → Int32 → Int32 → Int32 → Int32 → Int32 → Int32 → Option (Int32 × gI × gJ)) (σ : gI) (τ : gJ) (x1 : Int32) (x2 : Int32) (x3 : Int32) (x4 : Int32) (x5 : Int32) (x7 : Int32) (x8 : Int32) : Option (Int32 × gI × gJ) := if x5 ≤ x8 then (nm (up2 σ 158 9 x4) fun σ_2 => H_X11_odds_124 N N σ_2 τ x1 x2 x3 x5 0 x7 0) else (nm (x7 * 10) fun v_3 => nm (x8 + 1) fun v_4 => rec_92 σ τ x1 x2 x3 x4 x5 v_3 v_4)
def H_X11_odds_92 (N : Nat) : Nat → gI → gJ → Int32 → Int32 → Int32 → Int32 → Int32 → Int32 → Int32 → Option (Int32 × gI × gJ) := itn (fun rec_92 => C_X11_odds_92 N rec_92) (fun _ _ _ _ _ _ _ _ _ => none)
def B_X11_odds_0 (N : Nat) (σ : gI) (τ : gJ) (x1 : Int32) (x2 : Int32) (x3 : Int32) : Option (Int32 × gI × gJ) := bd (B_X6_has_0 N 30 σ τ x1) fun r_1 σ_1 τ_1 => if r_1 = 0 then (some ((-1), σ_1, τ_1)) else (if x2 < 0 then (some ((-1), σ_1, τ_1)) else (if 60 < x2 then (some ((-1), σ_1, τ_1)) else (if x3 < 0 then (some ((-1), σ_1, τ_1)) else (if x3 ≤ 10 then (nm ((((σ_1 30 8) + 10) - 1) / 10) fun v_7 => if x2 = 0 then (H_X11_odds_92 N N σ_1 τ_1 x1 x2 x3 v_7 0 1 0) else (nm (imax 0 ((((((σ_1 30 8) + x2) - 1) / 10) - v_7) + 1)) fun v_9 => H_X11_odds_92 N N σ_1 τ_1 x1 x2 x3 v_7 v_9 1 0)) else (some ((-1), σ_1, τ_1))))))
set_option maxHeartbeats 4000000 in
set_option maxRecDepth 100000 in
theorem k_X11_odds_124 (l : Launch) (S : CallFix P9 m9 C9 cX11_odds 10 s av.toArray gx_G RX11) (hr : meth.sig.returnType = (some .int)) (hlk : meth.locks = false) (hK : gx_K E s) (N : Nat) (rec_124 : gI → gJ → Int32 → Int32 → Int32 → Int32 → Int32 → Int32 → Int32 → Option (Int32 × gI × gJ)) (hrec_124 : ∀ (σ : gI) (τ : gJ) (x1 : Int32) (x2 : Int32) (x3 : Int32) (x5 : Int32) (x6 : Int32) (x7 : Int32) (x8 : Int32) (r : Int32) (σ1 : gI) (τ1 : gJ) (H : Heap) (locs : List Loc) (ls : Array Slot), rec_124 σ τ x1 x2 x3 x5 x6 x7 x8 = some (r, σ1, τ1) → gx_W gx_tb gx_tb.length E s σ τ H locs → lv_has ls 10 [(0, .ref (E.2.2 + 0)), (1, .int x1), (2, .int x2), (3, .int x3), (5, .int x5), (6, .int x6), (7, .int x7), (8, .int x8)] → W P9 l e9 (gx_rm 5) s m9 av.toArray below meth C9 H locs 0 0 (gq_Qi below av s E r σ1 τ1) (F0 m9 124 ls [])) (σ : gI) (τ : gJ) (x1 : Int32) (x2 : Int32) (x3 : Int32) (x5 : Int32) (x6 : Int32) (x7 : Int32) (x8 : Int32) {r : Int32} {σ1 : gI} {τ1 : gJ} (h : C_X11_odds_124 N rec_124 σ τ x1 x2 x3 x5 x6 x7 x8 = some (r, σ1, τ1)) {H : Heap} {locs : List Loc} {ls : Array Slot} (hw : gx_W gx_tb gx_tb.length E s σ τ H locs) (hl : lv_has ls 10 [(0, .ref (E.2.2 + 0)), (1, .int x1), (2, .int x2), (3, .int x3), (5, .int x5), (6, .int x6), (7, .int x7), (8, .int x8)]) : W P9 l e9 (gx_rm 5) s m9 av.toArray below meth C9 H locs 0 0 (gq_Qi below av s E r σ1 τ1) (F0 m9 124 ls []) := by
  have hx := S.1
  have hb := S.2.1
  unfold C_X11_odds_124 at h
  refine lv_iload hx hb dX11_odds_124 (lv_at hl 7 rfl) ?_
  refine lv_iconst (v := 1) hx hb dX11_odds_126 (by decide) ?_
  refine lv_iload hx hb dX11_odds_127 (lv_at hl 4 rfl) ?_
  refine lv_ishl hx hb dX11_odds_129 ?_
  refine lv_icmp_ge (tgt := 201) hx hb dX11_odds_130 (by decide) (fun c_1 => ?_) (fun c_1 => ?_)
  · rw [if_pos c_1] at h
    refine lv_aload_n hx hb dX11_odds_201 rfl (lv_at hl 0 rfl) ?_
    refine gx_getr (j := 158) S hK hw t_0 cl_12 14 (by decide) rfl mw_461 rfl dX11_odds_202 ?_
    refine lv_iconst (v := 0) hx hb dX11_odds_205 (by decide) ?_
    refine gx_put S hK gx_ok hw t_158 cl_2 8 (by decide) rfl mw_384 rfl rfl (ty := .int) (v := 0) (by decide +kernel) rfl rfl dX11_odds_206 (fun H locs hw => ?_)
    obtain ⟨σ_2, e_2, h⟩ := nm_some h
    rw [← e_2] at hw
    refine lv_iload hx hb dX11_odds_209 (lv_at hl 5 rfl) ?_
    refine lv_iload hx hb dX11_odds_211 (lv_at hl 6 rfl) ?_
    obtain ⟨r_3, σ_3, τ_3, q_3, h⟩ := bd_some h
    refine gx_cSi (As := [.int x6, .int x7]) (rest := []) S hK gx_ok hw (c_X11_commonDivisor l (E := E) N σ_2 τ x6 x7 q_3) cw_X11_411 ⟨Nat.le_of_ble_eq_true rfl, Nat.le_of_ble_eq_true rfl⟩ rfl hl.1 rfl (Nat.le_of_ble_eq_true rfl) ⟨Nat.le_of_ble_eq_true rfl, Nat.le_of_ble_eq_true rfl⟩ dX11_odds_213 (fun r9 σ9 τ9 H locs hp hw => ?_)
    obtain ⟨rfl, rfl, rfl⟩ := hp
    refine lv_istore (lv' := [(8, .int r_3), (0, .ref (E.2.2 + 0)), (1, .int x1), (2, .int x2), (3, .int x3), (5, .int x5), (6, .int x6), (7, .int x7)]) hx hb dX11_odds_216 hl (by decide) rfl (fun ls hl => ?_)
    refine lv_aload_n hx hb dX11_odds_218 rfl (lv_at hl 1 rfl) ?_
    refine gx_getr (j := 156) S hK hw t_0 cl_12 13 (by decide) rfl mw_460 rfl dX11_odds_219 ?_
    refine lv_iload hx hb dX11_odds_222 (lv_at hl 6 rfl) ?_
    refine lv_iload hx hb dX11_odds_224 (lv_at hl 0 rfl) ?_
    obtain ⟨hz_4, h⟩ := dz_some h
    refine lv_idiv hx hb dX11_odds_226 hz_4 ?_
    refine lv_i2l (v := (x6 / r_3).toInt64) hx hb dX11_odds_227 rfl ?_
    refine lv_iload hx hb dX11_odds_228 (lv_at hl 7 rfl) ?_
    refine lv_iload hx hb dX11_odds_230 (lv_at hl 0 rfl) ?_
    obtain ⟨hz_5, h⟩ := dz_some h
    refine lv_idiv hx hb dX11_odds_232 hz_5 ?_
    refine lv_i2l (v := (x7 / r_3).toInt64) hx hb dX11_odds_233 rfl ?_
    obtain ⟨u_6, σ_6, τ_6, q_6, h⟩ := bd_some h
    refine gx_cVv (As := [.long ((x6 / r_3).toInt64), .long ((x7 / r_3).toInt64)]) (rest := []) S hK gx_ok hw (c_X4_tell_ l (E := E) N σ_3 τ_3 ((x6 / r_3).toInt64) ((x7 / r_3).toInt64) q_6) cw_X11_257 t_156 cl_5 ⟨Nat.le_of_ble_eq_true rfl, Nat.le_of_ble_eq_true rfl⟩ rfl hl.1 rfl (Nat.le_of_ble_eq_true rfl) ⟨Nat.le_of_ble_eq_true rfl, Nat.le_of_ble_eq_true rfl⟩ dX11_odds_234 (fun σ9 τ9 H locs hp hw => ?_)
    obtain ⟨rfl, rfl⟩ := hp
    refine lv_iconst (v := 0) hx hb dX11_odds_237 (by decide) ?_
    obtain ⟨rfl, rfl, rfl⟩ := sm_inj h
    exact gx_ri (post := gq_p 0 σ_6 τ_6) (v := 0) S hr hlk hw rfl dX11_odds_238 ⟨rfl, rfl, rfl⟩
  · rw [if_neg c_1] at h
    refine lv_iload hx hb dX11_odds_133 (lv_at hl 7 rfl) ?_
    refine lv_iload hx hb dX11_odds_135 (lv_at hl 4 rfl) ?_
    refine lv_iload_n hx hb dX11_odds_137 rfl (lv_at hl 3 rfl) ?_
    obtain ⟨r_7, σ_7, τ_7, q_7, h⟩ := bd_some h
    refine gx_cSi (As := [.int x8, .int x5, .int x3]) (rest := []) S hK gx_ok hw (c_X11_weightOf l (E := E) N σ τ x8 x5 x3 q_7) cw_X11_404 ⟨Nat.le_of_ble_eq_true rfl, Nat.le_of_ble_eq_true rfl⟩ rfl hl.1 rfl (Nat.le_of_ble_eq_true rfl) ⟨Nat.le_of_ble_eq_true rfl, Nat.le_of_ble_eq_true rfl⟩ dX11_odds_138 (fun r9 σ9 τ9 H locs hp hw => ?_)
    obtain ⟨rfl, rfl, rfl⟩ := hp
    refine lv_istore (lv' := [(9, .int r_7), (0, .ref (E.2.2 + 0)), (1, .int x1), (2, .int x2), (3, .int x3), (5, .int x5), (6, .int x6), (7, .int x7), (8, .int x8)]) hx hb dX11_odds_141 hl (by decide) rfl (fun ls hl => ?_)
    refine lv_iload hx hb dX11_odds_143 (lv_at hl 0 rfl) ?_
    refine lv_if_le (tgt := 195) hx hb dX11_odds_145 (by decide) (fun c_8 => ?_) (fun c_8 => ?_)
    · rw [if_pos c_8] at h
      refine lv_iinc (v := x8 + 1) (lv' := [(8, .int (x8 + 1)), (9, .int r_7), (0, .ref (E.2.2 + 0)), (1, .int x1), (2, .int x2), (3, .int x3), (5, .int x5), (6, .int x6), (7, .int x7)]) hx hb dX11_odds_195 hl (k := 8) rfl rfl (by decide) rfl (fun ls hl => ?_)
      obtain ⟨v_9, e_9, h⟩ := nm_some h
      have hl : lv_has ls 10 [(8, .int v_9), (9, .int r_7), (0, .ref (E.2.2 + 0)), (1, .int x1), (2, .int x2), (3, .int x3), (5, .int x5), (6, .int x6), (7, .int x7)] := by rw [e_9]; exact hl
      refine lv_goto (tgt := 124) hx hb dX11_odds_198 (by decide) ?_
      exact hrec_124 σ_7 τ_7 x1 x2 x3 x5 x6 x7 v_9 _ _ _ _ _ _ h hw (lv_sub hl [2, 3, 4, 5, 6, 7, 8, 0] rfl)
    · rw [if_neg c_8] at h
      refine lv_aload_n hx hb dX11_odds_148 rfl (lv_at hl 1 rfl) ?_
      refine gx_getr (j := 158) S hK hw t_0 cl_12 14 (by decide) rfl mw_461 rfl dX11_odds_149 ?_
      refine lv_iload hx hb dX11_odds_152 (lv_at hl 8 rfl) ?_
      refine gx_put S hK gx_ok hw t_158 cl_2 8 (by decide) rfl mw_384 rfl rfl (ty := .int) (v := x8) (by decide +kernel) rfl rfl dX11_odds_154 (fun H locs hw => ?_)
      obtain ⟨σ_10, e_10, h⟩ := nm_some h
      rw [← e_10] at hw
      refine lv_aload_n hx hb dX11_odds_157 rfl (lv_at hl 1 rfl) ?_
      refine gx_getr (j := 160) S hK hw t_0 cl_12 15 (by decide) rfl mw_462 rfl dX11_odds_158 ?_
      refine lv_aload_n hx hb dX11_odds_161 rfl (lv_at hl 1 rfl) ?_
      refine gx_getr (j := 30) S hK hw t_0 cl_12 7 (by decide) rfl mw_454 rfl dX11_odds_162 ?_
      refine lv_iload_n hx hb dX11_odds_165 rfl (lv_at hl 3 rfl) ?_
      obtain ⟨u_11, σ_11, τ_11, q_11, h⟩ := bd_some h
      refine gx_cVv (As := [.ref (E.2.2 + 30), .int x2]) (rest := []) S hK gx_ok hw (c_X9_goOn l (E := E) N σ_10 τ_7 x2 q_11) cw_X11_293 t_160 cl_10 ⟨Nat.le_of_ble_eq_true rfl, Nat.le_of_ble_eq_true rfl⟩ rfl hl.1 rfl (Nat.le_of_ble_eq_true rfl) ⟨Nat.le_of_ble_eq_true rfl, Nat.le_of_ble_eq_true rfl⟩ dX11_odds_166 (fun σ9 τ9 H locs hp hw => ?_)
      obtain ⟨rfl, rfl⟩ := hp
      refine lv_iload hx hb dX11_odds_169 (lv_at hl 6 rfl) ?_
      refine lv_aload_n hx hb dX11_odds_171 rfl (lv_at hl 1 rfl) ?_
      refine gx_getr (j := 160) S hK hw t_0 cl_12 15 (by decide) rfl mw_462 rfl dX11_odds_172 ?_
      refine gx_getr (j := 171) S hK hw t_160 cl_10 8 (by decide) rfl mw_426 rfl dX11_odds_175 ?_
      refine lv_iload_n hx hb dX11_odds_178 rfl (lv_at hl 2 rfl) ?_
      obtain ⟨r_12, σ_12, τ_12, q_12, h⟩ := bd_some h
      refine gx_cVi (As := [.int x1]) (rest := [.int x6]) S hK gx_ok hw (c_X6_fateOf l (E := E) N 171 is_171 σ_11 τ_11 x1 q_12) cw_X11_187 t_171 cl_7 ⟨Nat.le_of_ble_eq_true rfl, Nat.le_of_ble_eq_true rfl⟩ rfl hl.1 rfl (Nat.le_of_ble_eq_true rfl) ⟨Nat.le_of_ble_eq_true rfl, Nat.le_of_ble_eq_true rfl⟩ dX11_odds_179 (fun r9 σ9 τ9 H locs hp hw => ?_)
      obtain ⟨rfl, rfl, rfl⟩ := hp
      refine lv_iconst (v := 1) hx hb dX11_odds_182 (by decide) ?_
      refine lv_icmp_ne (tgt := 191) hx hb dX11_odds_183 (by decide) (fun c_13 => ?_) (fun c_13 => ?_)
      · rw [if_neg c_13] at h
        refine lv_iconst (v := 0) hx hb dX11_odds_191 (by decide) ?_
        refine lv_iadd hx hb dX11_odds_192 ?_
        refine lv_istore (lv' := [(6, .int (x6 + 0)), (9, .int r_7), (0, .ref (E.2.2 + 0)), (1, .int x1), (2, .int x2), (3, .int x3), (5, .int x5), (7, .int x7), (8, .int x8)]) hx hb dX11_odds_193 hl (by decide) rfl (fun ls hl => ?_)
        obtain ⟨v_14, e_14, h⟩ := nm_some h
        have hl : lv_has ls 10 [(6, .int v_14), (9, .int r_7), (0, .ref (E.2.2 + 0)), (1, .int x1), (2, .int x2), (3, .int x3), (5, .int x5), (7, .int x7), (8, .int x8)] := by rw [e_14]; exact hl
        refine lv_iinc (v := x8 + 1) (lv' := [(8, .int (x8 + 1)), (6, .int v_14), (9, .int r_7), (0, .ref (E.2.2 + 0)), (1, .int x1), (2, .int x2), (3, .int x3), (5, .int x5), (7, .int x7)]) hx hb dX11_odds_195 hl (k := 8) rfl rfl (by decide) rfl (fun ls hl => ?_)
        obtain ⟨v_15, e_15, h⟩ := nm_some h
        have hl : lv_has ls 10 [(8, .int v_15), (6, .int v_14), (9, .int r_7), (0, .ref (E.2.2 + 0)), (1, .int x1), (2, .int x2), (3, .int x3), (5, .int x5), (7, .int x7)] := by rw [e_15]; exact hl
        refine lv_goto (tgt := 124) hx hb dX11_odds_198 (by decide) ?_
        exact hrec_124 σ_12 τ_12 x1 x2 x3 x5 v_14 x7 v_15 _ _ _ _ _ _ h hw (lv_sub hl [3, 4, 5, 6, 7, 1, 8, 0] rfl)
      · rw [if_pos c_13] at h
        refine lv_iload hx hb dX11_odds_186 (lv_at hl 0 rfl) ?_
        refine lv_goto (tgt := 192) hx hb dX11_odds_188 (by decide) ?_
        refine lv_iadd hx hb dX11_odds_192 ?_
        refine lv_istore (lv' := [(6, .int (x6 + r_7)), (9, .int r_7), (0, .ref (E.2.2 + 0)), (1, .int x1), (2, .int x2), (3, .int x3), (5, .int x5), (7, .int x7), (8, .int x8)]) hx hb dX11_odds_193 hl (by decide) rfl (fun ls hl => ?_)
        obtain ⟨v_16, e_16, h⟩ := nm_some h
        have hl : lv_has ls 10 [(6, .int v_16), (9, .int r_7), (0, .ref (E.2.2 + 0)), (1, .int x1), (2, .int x2), (3, .int x3), (5, .int x5), (7, .int x7), (8, .int x8)] := by rw [e_16]; exact hl
        refine lv_iinc (v := x8 + 1) (lv' := [(8, .int (x8 + 1)), (6, .int v_16), (9, .int r_7), (0, .ref (E.2.2 + 0)), (1, .int x1), (2, .int x2), (3, .int x3), (5, .int x5), (7, .int x7)]) hx hb dX11_odds_195 hl (k := 8) rfl rfl (by decide) rfl (fun ls hl => ?_)
        obtain ⟨v_17, e_17, h⟩ := nm_some h
        have hl : lv_has ls 10 [(8, .int v_17), (6, .int v_16), (9, .int r_7), (0, .ref (E.2.2 + 0)), (1, .int x1), (2, .int x2), (3, .int x3), (5, .int x5), (7, .int x7)] := by rw [e_17]; exact hl
        refine lv_goto (tgt := 124) hx hb dX11_odds_198 (by decide) ?_
        exact hrec_124 σ_12 τ_12 x1 x2 x3 x5 v_16 x7 v_17 _ _ _ _ _ _ h hw (lv_sub hl [3, 4, 5, 6, 7, 1, 8, 0] rfl)
set_option maxHeartbeats 4000000 in
set_option maxRecDepth 100000 in
theorem h_X11_odds_124 (l : Launch) (S : CallFix P9 m9 C9 cX11_odds 10 s av.toArray gx_G RX11) (hr : meth.sig.returnType = (some .int)) (hlk : meth.locks = false) (hK : gx_K E s) (N : Nat) : ∀ (n : Nat) (σ : gI) (τ : gJ) (x1 : Int32) (x2 : Int32) (x3 : Int32) (x5 : Int32) (x6 : Int32) (x7 : Int32) (x8 : Int32) (r : Int32) (σ1 : gI) (τ1 : gJ), H_X11_odds_124 N n σ τ x1 x2 x3 x5 x6 x7 x8 = some (r, σ1, τ1) → ∀ (H : Heap) (locs : List Loc) (ls : Array Slot), gx_W gx_tb gx_tb.length E s σ τ H locs → lv_has ls 10 [(0, .ref (E.2.2 + 0)), (1, .int x1), (2, .int x2), (3, .int x3), (5, .int x5), (6, .int x6), (7, .int x7), (8, .int x8)] → W P9 l e9 (gx_rm 5) s m9 av.toArray below meth C9 H locs 0 0 (gq_Qi below av s E r σ1 τ1) (F0 m9 124 ls []) := by
  intro n
  induction n with
  | zero => intro σ τ x1 x2 x3 x5 x6 x7 x8 r σ1 τ1 h; cases h
  | succ n ih =>
    intro σ τ x1 x2 x3 x5 x6 x7 x8 r σ1 τ1 h H locs ls hw hl
    exact k_X11_odds_124 l S hr hlk hK N (H_X11_odds_124 N n) (fun σ τ x1 x2 x3 x5 x6 x7 x8 r σ1 τ1 H locs ls h hw hl => ih σ τ x1 x2 x3 x5 x6 x7 x8 r σ1 τ1 h H locs ls hw hl) σ τ x1 x2 x3 x5 x6 x7 x8 h hw hl
set_option maxHeartbeats 4000000 in
set_option maxRecDepth 100000 in
theorem k_X11_odds_92 (l : Launch) (S : CallFix P9 m9 C9 cX11_odds 10 s av.toArray gx_G RX11) (hr : meth.sig.returnType = (some .int)) (hlk : meth.locks = false) (hK : gx_K E s) (N : Nat) (rec_92 : gI → gJ → Int32 → Int32 → Int32 → Int32 → Int32 → Int32 → Int32 → Option (Int32 × gI × gJ)) (hrec_92 : ∀ (σ : gI) (τ : gJ) (x1 : Int32) (x2 : Int32) (x3 : Int32) (x4 : Int32) (x5 : Int32) (x7 : Int32) (x8 : Int32) (r : Int32) (σ1 : gI) (τ1 : gJ) (H : Heap) (locs : List Loc) (ls : Array Slot), rec_92 σ τ x1 x2 x3 x4 x5 x7 x8 = some (r, σ1, τ1) → gx_W gx_tb gx_tb.length E s σ τ H locs → lv_has ls 10 [(0, .ref (E.2.2 + 0)), (1, .int x1), (2, .int x2), (3, .int x3), (4, .int x4), (5, .int x5), (6, .int 0), (7, .int x7), (8, .int x8)] → W P9 l e9 (gx_rm 5) s m9 av.toArray below meth C9 H locs 0 0 (gq_Qi below av s E r σ1 τ1) (F0 m9 92 ls [])) (σ : gI) (τ : gJ) (x1 : Int32) (x2 : Int32) (x3 : Int32) (x4 : Int32) (x5 : Int32) (x7 : Int32) (x8 : Int32) {r : Int32} {σ1 : gI} {τ1 : gJ} (h : C_X11_odds_92 N rec_92 σ τ x1 x2 x3 x4 x5 x7 x8 = some (r, σ1, τ1)) {H : Heap} {locs : List Loc} {ls : Array Slot} (hw : gx_W gx_tb gx_tb.length E s σ τ H locs) (hl : lv_has ls 10 [(0, .ref (E.2.2 + 0)), (1, .int x1), (2, .int x2), (3, .int x3), (4, .int x4), (5, .int x5), (6, .int 0), (7, .int x7), (8, .int x8)]) : W P9 l e9 (gx_rm 5) s m9 av.toArray below meth C9 H locs 0 0 (gq_Qi below av s E r σ1 τ1) (F0 m9 92 ls []) := by
  have hx := S.1
  have hb := S.2.1
  unfold C_X11_odds_92 at h
  refine lv_iload hx hb dX11_odds_92 (lv_at hl 8 rfl) ?_
  refine lv_iload hx hb dX11_odds_94 (lv_at hl 5 rfl) ?_
  refine lv_icmp_ge (tgt := 112) hx hb dX11_odds_96 (by decide) (fun c_1 => ?_) (fun c_1 => ?_)
  · rw [if_pos c_1] at h
    refine lv_aload_n hx hb dX11_odds_112 rfl (lv_at hl 0 rfl) ?_
    refine gx_getr (j := 158) S hK hw t_0 cl_12 14 (by decide) rfl mw_461 rfl dX11_odds_113 ?_
    refine lv_iload hx hb dX11_odds_116 (lv_at hl 4 rfl) ?_
    refine gx_put S hK gx_ok hw t_158 cl_2 9 (by decide) rfl mw_386 rfl rfl (ty := .int) (v := x4) (by decide +kernel) rfl rfl dX11_odds_118 (fun H locs hw => ?_)
    obtain ⟨σ_2, e_2, h⟩ := nm_some h
    rw [← e_2] at hw
    refine lv_iconst (v := 0) hx hb dX11_odds_121 (by decide) ?_
    refine lv_istore (lv' := [(8, .int 0), (0, .ref (E.2.2 + 0)), (1, .int x1), (2, .int x2), (3, .int x3), (4, .int x4), (5, .int x5), (6, .int 0), (7, .int x7)]) hx hb dX11_odds_122 hl (by decide) rfl (fun ls hl => ?_)
    exact h_X11_odds_124 l S hr hlk hK N N σ_2 τ x1 x2 x3 x5 0 x7 0 _ _ _ h _ _ _ hw (lv_sub hl [1, 2, 3, 4, 6, 7, 8, 0] rfl)
  · rw [if_neg c_1] at h
    refine lv_iload hx hb dX11_odds_99 (lv_at hl 7 rfl) ?_
    refine lv_bipush (v := 10) hx hb dX11_odds_101 (by decide) ?_
    refine lv_imul hx hb dX11_odds_103 ?_
    refine lv_istore (lv' := [(7, .int (x7 * 10)), (0, .ref (E.2.2 + 0)), (1, .int x1), (2, .int x2), (3, .int x3), (4, .int x4), (5, .int x5), (6, .int 0), (8, .int x8)]) hx hb dX11_odds_104 hl (by decide) rfl (fun ls hl => ?_)
    obtain ⟨v_3, e_3, h⟩ := nm_some h
    have hl : lv_has ls 10 [(7, .int v_3), (0, .ref (E.2.2 + 0)), (1, .int x1), (2, .int x2), (3, .int x3), (4, .int x4), (5, .int x5), (6, .int 0), (8, .int x8)] := by rw [e_3]; exact hl
    refine lv_iinc (v := x8 + 1) (lv' := [(8, .int (x8 + 1)), (7, .int v_3), (0, .ref (E.2.2 + 0)), (1, .int x1), (2, .int x2), (3, .int x3), (4, .int x4), (5, .int x5), (6, .int 0)]) hx hb dX11_odds_106 hl (k := 8) rfl rfl (by decide) rfl (fun ls hl => ?_)
    obtain ⟨v_4, e_4, h⟩ := nm_some h
    have hl : lv_has ls 10 [(8, .int v_4), (7, .int v_3), (0, .ref (E.2.2 + 0)), (1, .int x1), (2, .int x2), (3, .int x3), (4, .int x4), (5, .int x5), (6, .int 0)] := by rw [e_4]; exact hl
    refine lv_goto (tgt := 92) hx hb dX11_odds_109 (by decide) ?_
    exact hrec_92 σ τ x1 x2 x3 x4 x5 v_3 v_4 _ _ _ _ _ _ h hw (lv_sub hl [2, 3, 4, 5, 6, 7, 8, 1, 0] rfl)
set_option maxHeartbeats 4000000 in
set_option maxRecDepth 100000 in
theorem h_X11_odds_92 (l : Launch) (S : CallFix P9 m9 C9 cX11_odds 10 s av.toArray gx_G RX11) (hr : meth.sig.returnType = (some .int)) (hlk : meth.locks = false) (hK : gx_K E s) (N : Nat) : ∀ (n : Nat) (σ : gI) (τ : gJ) (x1 : Int32) (x2 : Int32) (x3 : Int32) (x4 : Int32) (x5 : Int32) (x7 : Int32) (x8 : Int32) (r : Int32) (σ1 : gI) (τ1 : gJ), H_X11_odds_92 N n σ τ x1 x2 x3 x4 x5 x7 x8 = some (r, σ1, τ1) → ∀ (H : Heap) (locs : List Loc) (ls : Array Slot), gx_W gx_tb gx_tb.length E s σ τ H locs → lv_has ls 10 [(0, .ref (E.2.2 + 0)), (1, .int x1), (2, .int x2), (3, .int x3), (4, .int x4), (5, .int x5), (6, .int 0), (7, .int x7), (8, .int x8)] → W P9 l e9 (gx_rm 5) s m9 av.toArray below meth C9 H locs 0 0 (gq_Qi below av s E r σ1 τ1) (F0 m9 92 ls []) := by
  intro n
  induction n with
  | zero => intro σ τ x1 x2 x3 x4 x5 x7 x8 r σ1 τ1 h; cases h
  | succ n ih =>
    intro σ τ x1 x2 x3 x4 x5 x7 x8 r σ1 τ1 h H locs ls hw hl
    exact k_X11_odds_92 l S hr hlk hK N (H_X11_odds_92 N n) (fun σ τ x1 x2 x3 x4 x5 x7 x8 r σ1 τ1 H locs ls h hw hl => ih σ τ x1 x2 x3 x4 x5 x7 x8 r σ1 τ1 h H locs ls hw hl) σ τ x1 x2 x3 x4 x5 x7 x8 h hw hl
set_option maxHeartbeats 4000000 in
set_option maxRecDepth 100000 in
theorem b_X11_odds_0 (l : Launch) (S : CallFix P9 m9 C9 cX11_odds 10 s av.toArray gx_G RX11) (hr : meth.sig.returnType = (some .int)) (hlk : meth.locks = false) (hK : gx_K E s) (N : Nat) (σ : gI) (τ : gJ) (x1 : Int32) (x2 : Int32) (x3 : Int32) {r : Int32} {σ1 : gI} {τ1 : gJ} (h : B_X11_odds_0 N σ τ x1 x2 x3 = some (r, σ1, τ1)) {H : Heap} {locs : List Loc} {ls : Array Slot} (hw : gx_W gx_tb gx_tb.length E s σ τ H locs) (hl : lv_has ls 10 [(0, .ref (E.2.2 + 0)), (1, .int x1), (2, .int x2), (3, .int x3)]) : W P9 l e9 (gx_rm 5) s m9 av.toArray below meth C9 H locs 0 0 (gq_Qi below av s E r σ1 τ1) (F0 m9 0 ls []) := by
  have hx := S.1
  have hb := S.2.1
  unfold B_X11_odds_0 at h
  refine lv_aload_n hx hb dX11_odds_0 rfl (lv_at hl 0 rfl) ?_
  refine gx_getr (j := 30) S hK hw t_0 cl_12 7 (by decide) rfl mw_454 rfl dX11_odds_1 ?_
  refine lv_iload_n hx hb dX11_odds_4 rfl (lv_at hl 1 rfl) ?_
  obtain ⟨r_1, σ_1, τ_1, q_1, h⟩ := bd_some h
  refine gx_cVi (As := [.int x1]) (rest := []) S hK gx_ok hw (c_X6_has l (E := E) N 30 is_30 σ τ x1 q_1) cw_X11_172 t_30 cl_7 ⟨Nat.le_of_ble_eq_true rfl, Nat.le_of_ble_eq_true rfl⟩ rfl hl.1 rfl (Nat.le_of_ble_eq_true rfl) ⟨Nat.le_of_ble_eq_true rfl, Nat.le_of_ble_eq_true rfl⟩ dX11_odds_5 (fun r9 σ9 τ9 H locs hp hw => ?_)
  obtain ⟨rfl, rfl, rfl⟩ := hp
  refine lv_if_eq (tgt := 31) hx hb dX11_odds_8 (by decide) (fun c_2 => ?_) (fun c_2 => ?_)
  · rw [if_pos c_2] at h
    refine lv_iconst (v := (-1)) hx hb dX11_odds_31 (by decide) ?_
    obtain ⟨rfl, rfl, rfl⟩ := sm_inj h
    exact gx_ri (post := gq_p (-1) σ_1 τ_1) (v := (-1)) S hr hlk hw rfl dX11_odds_32 ⟨rfl, rfl, rfl⟩
  · rw [if_neg c_2] at h
    refine lv_iload_n hx hb dX11_odds_11 rfl (lv_at hl 2 rfl) ?_
    refine lv_if_lt (tgt := 31) hx hb dX11_odds_12 (by decide) (fun c_3 => ?_) (fun c_3 => ?_)
    · rw [if_pos c_3] at h
      refine lv_iconst (v := (-1)) hx hb dX11_odds_31 (by decide) ?_
      obtain ⟨rfl, rfl, rfl⟩ := sm_inj h
      exact gx_ri (post := gq_p (-1) σ_1 τ_1) (v := (-1)) S hr hlk hw rfl dX11_odds_32 ⟨rfl, rfl, rfl⟩
    · rw [if_neg c_3] at h
      refine lv_iload_n hx hb dX11_odds_15 rfl (lv_at hl 2 rfl) ?_
      refine lv_bipush (v := 60) hx hb dX11_odds_16 (by decide) ?_
      refine lv_icmp_gt (tgt := 31) hx hb dX11_odds_18 (by decide) (fun c_4 => ?_) (fun c_4 => ?_)
      · rw [if_pos c_4] at h
        refine lv_iconst (v := (-1)) hx hb dX11_odds_31 (by decide) ?_
        obtain ⟨rfl, rfl, rfl⟩ := sm_inj h
        exact gx_ri (post := gq_p (-1) σ_1 τ_1) (v := (-1)) S hr hlk hw rfl dX11_odds_32 ⟨rfl, rfl, rfl⟩
      · rw [if_neg c_4] at h
        refine lv_iload_n hx hb dX11_odds_21 rfl (lv_at hl 3 rfl) ?_
        refine lv_if_lt (tgt := 31) hx hb dX11_odds_22 (by decide) (fun c_5 => ?_) (fun c_5 => ?_)
        · rw [if_pos c_5] at h
          refine lv_iconst (v := (-1)) hx hb dX11_odds_31 (by decide) ?_
          obtain ⟨rfl, rfl, rfl⟩ := sm_inj h
          exact gx_ri (post := gq_p (-1) σ_1 τ_1) (v := (-1)) S hr hlk hw rfl dX11_odds_32 ⟨rfl, rfl, rfl⟩
        · rw [if_neg c_5] at h
          refine lv_iload_n hx hb dX11_odds_25 rfl (lv_at hl 3 rfl) ?_
          refine lv_bipush (v := 10) hx hb dX11_odds_26 (by decide) ?_
          refine lv_icmp_le (tgt := 33) hx hb dX11_odds_28 (by decide) (fun c_6 => ?_) (fun c_6 => ?_)
          · rw [if_pos c_6] at h
            refine lv_aload_n hx hb dX11_odds_33 rfl (lv_at hl 0 rfl) ?_
            refine gx_getr (j := 30) S hK hw t_0 cl_12 7 (by decide) rfl mw_454 rfl dX11_odds_34 ?_
            refine gx_get S hK hw t_30 cl_7 8 (by decide) rfl mw_280 rfl dX11_odds_37 ?_
            refine lv_bipush (v := 10) hx hb dX11_odds_40 (by decide) ?_
            refine lv_iadd hx hb dX11_odds_42 ?_
            refine lv_iconst (v := 1) hx hb dX11_odds_43 (by decide) ?_
            refine lv_isub hx hb dX11_odds_44 ?_
            refine lv_bipush (v := 10) hx hb dX11_odds_45 (by decide) ?_
            refine lv_idiv hx hb dX11_odds_47 (by decide) ?_
            refine lv_istore (lv' := [(4, .int ((((σ_1 30 8) + 10) - 1) / 10)), (0, .ref (E.2.2 + 0)), (1, .int x1), (2, .int x2), (3, .int x3)]) hx hb dX11_odds_48 hl (by decide) rfl (fun ls hl => ?_)
            obtain ⟨v_7, e_7, h⟩ := nm_some h
            have hl : lv_has ls 10 [(4, .int v_7), (0, .ref (E.2.2 + 0)), (1, .int x1), (2, .int x2), (3, .int x3)] := by rw [e_7]; exact hl
            refine lv_iload_n hx hb dX11_odds_50 rfl (lv_at hl 3 rfl) ?_
            refine lv_if_ne (tgt := 58) hx hb dX11_odds_51 (by decide) (fun c_8 => ?_) (fun c_8 => ?_)
            · rw [if_neg c_8] at h
              refine lv_iconst (v := 0) hx hb dX11_odds_58 (by decide) ?_
              refine lv_aload_n hx hb dX11_odds_59 rfl (lv_at hl 1 rfl) ?_
              refine gx_getr (j := 30) S hK hw t_0 cl_12 7 (by decide) rfl mw_454 rfl dX11_odds_60 ?_
              refine gx_get S hK hw t_30 cl_7 8 (by decide) rfl mw_280 rfl dX11_odds_63 ?_
              refine lv_iload_n hx hb dX11_odds_66 rfl (lv_at hl 3 rfl) ?_
              refine lv_iadd hx hb dX11_odds_67 ?_
              refine lv_iconst (v := 1) hx hb dX11_odds_68 (by decide) ?_
              refine lv_isub hx hb dX11_odds_69 ?_
              refine lv_bipush (v := 10) hx hb dX11_odds_70 (by decide) ?_
              refine lv_idiv hx hb dX11_odds_72 (by decide) ?_
              refine lv_iload hx hb dX11_odds_73 (lv_at hl 0 rfl) ?_
              refine lv_isub hx hb dX11_odds_75 ?_
              refine lv_iconst (v := 1) hx hb dX11_odds_76 (by decide) ?_
              refine lv_iadd hx hb dX11_odds_77 ?_
              refine gx_max (w := imax 0 ((((((σ_1 30 8) + x2) - 1) / 10) - v_7) + 1)) S hl.1 mw_789 mw_577 mw_102 mw_578 ⟨Nat.le_of_ble_eq_true rfl, Nat.le_of_ble_eq_true rfl⟩ ⟨Nat.le_of_ble_eq_true rfl, Nat.le_of_ble_eq_true rfl⟩ dX11_odds_78 rfl ?_
              refine lv_istore (lv' := [(5, .int (imax 0 ((((((σ_1 30 8) + x2) - 1) / 10) - v_7) + 1))), (4, .int v_7), (0, .ref (E.2.2 + 0)), (1, .int x1), (2, .int x2), (3, .int x3)]) hx hb dX11_odds_81 hl (by decide) rfl (fun ls hl => ?_)
              obtain ⟨v_9, e_9, h⟩ := nm_some h
              have hl : lv_has ls 10 [(5, .int v_9), (4, .int v_7), (0, .ref (E.2.2 + 0)), (1, .int x1), (2, .int x2), (3, .int x3)] := by rw [e_9]; exact hl
              refine lv_iconst (v := 0) hx hb dX11_odds_83 (by decide) ?_
              refine lv_istore (lv' := [(6, .int 0), (5, .int v_9), (4, .int v_7), (0, .ref (E.2.2 + 0)), (1, .int x1), (2, .int x2), (3, .int x3)]) hx hb dX11_odds_84 hl (by decide) rfl (fun ls hl => ?_)
              refine lv_iconst (v := 1) hx hb dX11_odds_86 (by decide) ?_
              refine lv_istore (lv' := [(7, .int 1), (6, .int 0), (5, .int v_9), (4, .int v_7), (0, .ref (E.2.2 + 0)), (1, .int x1), (2, .int x2), (3, .int x3)]) hx hb dX11_odds_87 hl (by decide) rfl (fun ls hl => ?_)
              refine lv_iconst (v := 0) hx hb dX11_odds_89 (by decide) ?_
              refine lv_istore (lv' := [(8, .int 0), (7, .int 1), (6, .int 0), (5, .int v_9), (4, .int v_7), (0, .ref (E.2.2 + 0)), (1, .int x1), (2, .int x2), (3, .int x3)]) hx hb dX11_odds_90 hl (by decide) rfl (fun ls hl => ?_)
              exact h_X11_odds_92 l S hr hlk hK N N σ_1 τ_1 x1 x2 x3 v_7 v_9 1 0 _ _ _ h _ _ _ hw (lv_sub hl [5, 6, 7, 8, 4, 3, 2, 1, 0] rfl)
            · rw [if_pos c_8] at h
              refine lv_iconst (v := 0) hx hb dX11_odds_54 (by decide) ?_
              refine lv_goto (tgt := 81) hx hb dX11_odds_55 (by decide) ?_
              refine lv_istore (lv' := [(5, .int 0), (4, .int v_7), (0, .ref (E.2.2 + 0)), (1, .int x1), (2, .int x2), (3, .int x3)]) hx hb dX11_odds_81 hl (by decide) rfl (fun ls hl => ?_)
              refine lv_iconst (v := 0) hx hb dX11_odds_83 (by decide) ?_
              refine lv_istore (lv' := [(6, .int 0), (5, .int 0), (4, .int v_7), (0, .ref (E.2.2 + 0)), (1, .int x1), (2, .int x2), (3, .int x3)]) hx hb dX11_odds_84 hl (by decide) rfl (fun ls hl => ?_)
              refine lv_iconst (v := 1) hx hb dX11_odds_86 (by decide) ?_
              refine lv_istore (lv' := [(7, .int 1), (6, .int 0), (5, .int 0), (4, .int v_7), (0, .ref (E.2.2 + 0)), (1, .int x1), (2, .int x2), (3, .int x3)]) hx hb dX11_odds_87 hl (by decide) rfl (fun ls hl => ?_)
              refine lv_iconst (v := 0) hx hb dX11_odds_89 (by decide) ?_
              refine lv_istore (lv' := [(8, .int 0), (7, .int 1), (6, .int 0), (5, .int 0), (4, .int v_7), (0, .ref (E.2.2 + 0)), (1, .int x1), (2, .int x2), (3, .int x3)]) hx hb dX11_odds_90 hl (by decide) rfl (fun ls hl => ?_)
              exact h_X11_odds_92 l S hr hlk hK N N σ_1 τ_1 x1 x2 x3 v_7 0 1 0 _ _ _ h _ _ _ hw (lv_sub hl [5, 6, 7, 8, 4, 3, 2, 1, 0] rfl)
          · rw [if_neg c_6] at h
            refine lv_iconst (v := (-1)) hx hb dX11_odds_31 (by decide) ?_
            obtain ⟨rfl, rfl, rfl⟩ := sm_inj h
            exact gx_ri (post := gq_p (-1) σ_1 τ_1) (v := (-1)) S hr hlk hw rfl dX11_odds_32 ⟨rfl, rfl, rfl⟩
set_option maxHeartbeats 4000000 in
set_option maxRecDepth 100000 in
theorem c_X11_odds (l : Launch) {E : gE} (N : Nat) (σ : gI) (τ : gJ) (x1 : Int32) (x2 : Int32) (x3 : Int32) {r : Int32} {σ1 : gI} {τ1 : gJ} (h : B_X11_odds_0 N σ τ x1 x2 x3 = some (r, σ1, τ1)) : gx_Mi l yX11_odds cX11_odds 10 (some .int) 5 gx_tb E σ τ [.ref (E.2.2 + 0), .int x1, .int x2, .int x3] (gq_p r σ1 τ1) := by
  refine gx_bi (by decide +kernel) (Nat.le_of_ble_eq_true rfl) ?_
  intro P9 e9 s m9 below meth C9 S hr hlk hK hw ls hl
  have hl : lv_has ls 10 [(0, .ref (E.2.2 + 0)), (1, .int x1), (2, .int x2), (3, .int x3)] := hl
  exact b_X11_odds_0 l S hr hlk hK N σ τ x1 x2 x3 h hw hl
/-! X1_seesOthers -/
def B_X1_seesOthers_0 (N : Nat) (σ : gI) (τ : gJ) : Option (Int32 × gI × gJ) := cb (σ 17 10) <| some (σ 17 10, σ, τ)
set_option maxHeartbeats 4000000 in
set_option maxRecDepth 100000 in
theorem b_X1_seesOthers_0 (l : Launch) (S : CallFix P9 m9 C9 cX1_seesOthers 1 s av.toArray gx_G RX1) (hr : meth.sig.returnType = (some .boolean)) (hlk : meth.locks = false) (hK : gx_K E s) (N : Nat) (σ : gI) (τ : gJ) {r : Int32} {σ1 : gI} {τ1 : gJ} (h : B_X1_seesOthers_0 N σ τ = some (r, σ1, τ1)) {H : Heap} {locs : List Loc} {ls : Array Slot} (hw : gx_W gx_tb gx_tb.length E s σ τ H locs) (hl : lv_has ls 1 [(0, .ref (E.2.2 + 158))]) : W P9 l e9 (gx_rm 0) s m9 av.toArray below meth C9 H locs 0 0 (gq_Qi below av s E r σ1 τ1) (F0 m9 0 ls []) := by
  have hx := S.1
  have hb := S.2.1
  unfold B_X1_seesOthers_0 at h
  refine lv_aload_n hx hb dX1_seesOthers_0 rfl (lv_at hl 0 rfl) ?_
  refine gx_getr (j := 17) S hK hw t_158 cl_2 2 (by decide) rfl mw_373 rfl dX1_seesOthers_1 ?_
  refine gx_get S hK hw t_17 cl_6 10 (by decide) rfl mw_211 rfl dX1_seesOthers_4 ?_
  obtain ⟨hq_1, h⟩ := cb_some h
  obtain ⟨rfl, rfl, rfl⟩ := sm_inj h
  exact gx_ri (post := gq_p (σ 17 10) σ τ) (v := σ 17 10) S hr hlk hw (cb_nar hq_1) dX1_seesOthers_7 ⟨rfl, rfl, rfl⟩
set_option maxHeartbeats 4000000 in
set_option maxRecDepth 100000 in
theorem c_X1_seesOthers (l : Launch) {E : gE} (N : Nat) (σ : gI) (τ : gJ) {r : Int32} {σ1 : gI} {τ1 : gJ} (h : B_X1_seesOthers_0 N σ τ = some (r, σ1, τ1)) : gx_Mi l yX1_seesOthers cX1_seesOthers 1 (some .boolean) 0 gx_tb E σ τ [.ref (E.2.2 + 158)] (gq_p r σ1 τ1) := by
  refine gx_bi (by decide +kernel) (Nat.le_of_ble_eq_true rfl) ?_
  intro P9 e9 s m9 below meth C9 S hr hlk hK hw ls hl
  have hl : lv_has ls 1 [(0, .ref (E.2.2 + 158))] := hl
  exact b_X1_seesOthers_0 l S hr hlk hK N σ τ h hw hl
/-! X6_holdBack -/
def C_X6_holdBack_2 (N : Nat) (c : Nat) (rec_2 : gI → gJ → Int32 → Int32 → Option (Unit × gI × gJ)) (σ : gI) (τ : gJ) (x1 : Int32) (x2 : Int32) : Option (Unit × gI × gJ) := if σ c 6 ≤ x2 then (some ((), σ, τ)) else (if 6 ≤ x2 then (some ((), σ, τ)) else (if (x1 >>> (x2 &&& 31)) &&& 1 = 0 then (ck x2 6 fun j_4 => nm (up2 σ (c + 5) j_4 (σ (c + 5) j_4)) fun σ_5 => nm (x2 + 1) fun v_6 => rec_2 σ_5 τ x1 v_6) else (ck x2 6 fun j_7 => nm (up2 σ (c + 5) j_7 2147483647) fun σ_8 => nm (x2 + 1) fun v_9 => rec_2 σ_8 τ x1 v_9)))
def H_X6_holdBack_2 (N : Nat) (c : Nat) : Nat → gI → gJ → Int32 → Int32 → Option (Unit × gI × gJ) := itn (fun rec_2 => C_X6_holdBack_2 N c rec_2) (fun _ _ _ _ => none)
def B_X6_holdBack_0 (N : Nat) (c : Nat) (σ : gI) (τ : gJ) (x1 : Int32) : Option (Unit × gI × gJ) := H_X6_holdBack_2 N c N σ τ x1 0
set_option maxHeartbeats 4000000 in
set_option maxRecDepth 100000 in
theorem k_X6_holdBack_2 (l : Launch) (S : CallFix P9 m9 C9 cX6_holdBack 3 s av.toArray gx_G RX6) (hr : meth.sig.returnType = none) (hlk : meth.locks = false) (hK : gx_K E s) (N : Nat) (c : Nat) (tc : gx_isS c) (rec_2 : gI → gJ → Int32 → Int32 → Option (Unit × gI × gJ)) (hrec_2 : ∀ (σ : gI) (τ : gJ) (x1 : Int32) (x2 : Int32) (r : Unit) (σ1 : gI) (τ1 : gJ) (H : Heap) (locs : List Loc) (ls : Array Slot), rec_2 σ τ x1 x2 = some (r, σ1, τ1) → gx_W gx_tb gx_tb.length E s σ τ H locs → lv_has ls 3 [(0, .ref (E.2.2 + c)), (1, .int x1), (2, .int x2)] → W P9 l e9 (gx_rm 0) s m9 av.toArray below meth C9 H locs 0 0 (gq_Qv below av s E σ1 τ1) (F0 m9 2 ls [])) (σ : gI) (τ : gJ) (x1 : Int32) (x2 : Int32) {r : Unit} {σ1 : gI} {τ1 : gJ} (h : C_X6_holdBack_2 N c rec_2 σ τ x1 x2 = some (r, σ1, τ1)) {H : Heap} {locs : List Loc} {ls : Array Slot} (hw : gx_W gx_tb gx_tb.length E s σ τ H locs) (hl : lv_has ls 3 [(0, .ref (E.2.2 + c)), (1, .int x1), (2, .int x2)]) : W P9 l e9 (gx_rm 0) s m9 av.toArray below meth C9 H locs 0 0 (gq_Qv below av s E σ1 τ1) (F0 m9 2 ls []) := by
  have hx := S.1
  have hb := S.2.1
  unfold C_X6_holdBack_2 at h
  refine lv_iload_n hx hb dX6_holdBack_2 rfl (lv_at hl 2 rfl) ?_
  refine lv_aload_n hx hb dX6_holdBack_3 rfl (lv_at hl 0 rfl) ?_
  refine gx_get S hK hw tc.1 cl_7 6 (by decide) rfl mw_270 rfl dX6_holdBack_4 ?_
  refine lv_icmp_ge (tgt := 47) hx hb dX6_holdBack_7 (by decide) (fun c_1 => ?_) (fun c_1 => ?_)
  · rw [if_pos c_1] at h
    obtain ⟨-, rfl, rfl⟩ := sm_inj h
    exact gx_rv (post := gq_v σ τ) S hr hlk hw dX6_holdBack_47 ⟨rfl, rfl⟩
  · rw [if_neg c_1] at h
    refine lv_iload_n hx hb dX6_holdBack_10 rfl (lv_at hl 2 rfl) ?_
    refine lv_bipush (v := 6) hx hb dX6_holdBack_11 (by decide) ?_
    refine lv_icmp_ge (tgt := 47) hx hb dX6_holdBack_13 (by decide) (fun c_2 => ?_) (fun c_2 => ?_)
    · rw [if_pos c_2] at h
      obtain ⟨-, rfl, rfl⟩ := sm_inj h
      exact gx_rv (post := gq_v σ τ) S hr hlk hw dX6_holdBack_47 ⟨rfl, rfl⟩
    · rw [if_neg c_2] at h
      refine lv_aload_n hx hb dX6_holdBack_16 rfl (lv_at hl 0 rfl) ?_
      refine gx_getr (j := c + 5) S hK hw tc.1 cl_7 4 (by decide) rfl mw_268 rfl dX6_holdBack_17 ?_
      refine lv_iload_n hx hb dX6_holdBack_20 rfl (lv_at hl 2 rfl) ?_
      refine lv_iload_n hx hb dX6_holdBack_21 rfl (lv_at hl 1 rfl) ?_
      refine lv_iload_n hx hb dX6_holdBack_22 rfl (lv_at hl 2 rfl) ?_
      refine lv_ishr hx hb dX6_holdBack_23 ?_
      refine lv_iconst (v := 1) hx hb dX6_holdBack_24 (by decide) ?_
      refine lv_iand hx hb dX6_holdBack_25 ?_
      refine lv_if_eq (tgt := 34) hx hb dX6_holdBack_26 (by decide) (fun c_3 => ?_) (fun c_3 => ?_)
      · rw [if_pos c_3] at h
        refine lv_aload_n hx hb dX6_holdBack_34 rfl (lv_at hl 0 rfl) ?_
        refine gx_getr (j := c + 5) S hK hw tc.1 cl_7 4 (by decide) rfl mw_268 rfl dX6_holdBack_35 ?_
        refine lv_iload_n hx hb dX6_holdBack_38 rfl (lv_at hl 2 rfl) ?_
        obtain ⟨j_4, hj_4, hi_4, h⟩ := ck_some h
        refine gx_iald S hK hw (iS_5 tc) j_4 hj_4 hi_4 dX6_holdBack_39 ?_
        refine gx_iast S hK gx_ok hw (iS_5 tc) j_4 hj_4 hi_4 dX6_holdBack_40 (fun H locs hw => ?_)
        obtain ⟨σ_5, e_5, h⟩ := nm_some h
        rw [← e_5] at hw
        refine lv_iinc (v := x2 + 1) (lv' := [(2, .int (x2 + 1)), (0, .ref (E.2.2 + c)), (1, .int x1)]) hx hb dX6_holdBack_41 hl (k := 2) rfl rfl (by decide) rfl (fun ls hl => ?_)
        obtain ⟨v_6, e_6, h⟩ := nm_some h
        have hl : lv_has ls 3 [(2, .int v_6), (0, .ref (E.2.2 + c)), (1, .int x1)] := by rw [e_6]; exact hl
        refine lv_goto (tgt := 2) hx hb dX6_holdBack_44 (by decide) ?_
        exact hrec_2 σ_5 τ x1 v_6 _ _ _ _ _ _ h hw (lv_sub hl [1, 2, 0] rfl)
      · rw [if_neg c_3] at h
        refine lv_ldc (v := 2147483647) hx hb S.2.2.2.1 (S.2.2.2.2 _ mw_1150) dX6_holdBack_29 ?_
        refine lv_goto (tgt := 40) hx hb dX6_holdBack_31 (by decide) ?_
        obtain ⟨j_7, hj_7, hi_7, h⟩ := ck_some h
        refine gx_iast S hK gx_ok hw (iS_5 tc) j_7 hj_7 hi_7 dX6_holdBack_40 (fun H locs hw => ?_)
        obtain ⟨σ_8, e_8, h⟩ := nm_some h
        rw [← e_8] at hw
        refine lv_iinc (v := x2 + 1) (lv' := [(2, .int (x2 + 1)), (0, .ref (E.2.2 + c)), (1, .int x1)]) hx hb dX6_holdBack_41 hl (k := 2) rfl rfl (by decide) rfl (fun ls hl => ?_)
        obtain ⟨v_9, e_9, h⟩ := nm_some h
        have hl : lv_has ls 3 [(2, .int v_9), (0, .ref (E.2.2 + c)), (1, .int x1)] := by rw [e_9]; exact hl
        refine lv_goto (tgt := 2) hx hb dX6_holdBack_44 (by decide) ?_
        exact hrec_2 σ_8 τ x1 v_9 _ _ _ _ _ _ h hw (lv_sub hl [1, 2, 0] rfl)
set_option maxHeartbeats 4000000 in
set_option maxRecDepth 100000 in
theorem h_X6_holdBack_2 (l : Launch) (S : CallFix P9 m9 C9 cX6_holdBack 3 s av.toArray gx_G RX6) (hr : meth.sig.returnType = none) (hlk : meth.locks = false) (hK : gx_K E s) (N : Nat) (c : Nat) (tc : gx_isS c) : ∀ (n : Nat) (σ : gI) (τ : gJ) (x1 : Int32) (x2 : Int32) (r : Unit) (σ1 : gI) (τ1 : gJ), H_X6_holdBack_2 N c n σ τ x1 x2 = some (r, σ1, τ1) → ∀ (H : Heap) (locs : List Loc) (ls : Array Slot), gx_W gx_tb gx_tb.length E s σ τ H locs → lv_has ls 3 [(0, .ref (E.2.2 + c)), (1, .int x1), (2, .int x2)] → W P9 l e9 (gx_rm 0) s m9 av.toArray below meth C9 H locs 0 0 (gq_Qv below av s E σ1 τ1) (F0 m9 2 ls []) := by
  intro n
  induction n with
  | zero => intro σ τ x1 x2 r σ1 τ1 h; cases h
  | succ n ih =>
    intro σ τ x1 x2 r σ1 τ1 h H locs ls hw hl
    exact k_X6_holdBack_2 l S hr hlk hK N c tc (H_X6_holdBack_2 N c n) (fun σ τ x1 x2 r σ1 τ1 H locs ls h hw hl => ih σ τ x1 x2 r σ1 τ1 h H locs ls hw hl) σ τ x1 x2 h hw hl
set_option maxHeartbeats 4000000 in
set_option maxRecDepth 100000 in
theorem b_X6_holdBack_0 (l : Launch) (S : CallFix P9 m9 C9 cX6_holdBack 3 s av.toArray gx_G RX6) (hr : meth.sig.returnType = none) (hlk : meth.locks = false) (hK : gx_K E s) (N : Nat) (c : Nat) (tc : gx_isS c) (σ : gI) (τ : gJ) (x1 : Int32) {r : Unit} {σ1 : gI} {τ1 : gJ} (h : B_X6_holdBack_0 N c σ τ x1 = some (r, σ1, τ1)) {H : Heap} {locs : List Loc} {ls : Array Slot} (hw : gx_W gx_tb gx_tb.length E s σ τ H locs) (hl : lv_has ls 3 [(0, .ref (E.2.2 + c)), (1, .int x1)]) : W P9 l e9 (gx_rm 0) s m9 av.toArray below meth C9 H locs 0 0 (gq_Qv below av s E σ1 τ1) (F0 m9 0 ls []) := by
  have hx := S.1
  have hb := S.2.1
  unfold B_X6_holdBack_0 at h
  refine lv_iconst (v := 0) hx hb dX6_holdBack_0 (by decide) ?_
  refine lv_istore_n (lv' := [(2, .int 0), (0, .ref (E.2.2 + c)), (1, .int x1)]) hx hb dX6_holdBack_1 rfl hl (by decide) rfl (fun ls hl => ?_)
  exact h_X6_holdBack_2 l S hr hlk hK N c tc N σ τ x1 0 _ _ _ h _ _ _ hw (lv_sub hl [1, 2, 0] rfl)
set_option maxHeartbeats 4000000 in
set_option maxRecDepth 100000 in
theorem c_X6_holdBack (l : Launch) {E : gE} (N : Nat) (c : Nat) (tc : gx_isS c) (σ : gI) (τ : gJ) (x1 : Int32) {r : Unit} {σ1 : gI} {τ1 : gJ} (h : B_X6_holdBack_0 N c σ τ x1 = some (r, σ1, τ1)) : gx_Mv l yX6_holdBack cX6_holdBack 3 none 0 gx_tb E σ τ [.ref (E.2.2 + c), .int x1] (gq_v σ1 τ1) := by
  refine gx_bv (by decide +kernel) (Nat.le_of_ble_eq_true rfl) ?_
  intro P9 e9 s m9 below meth C9 S hr hlk hK hw ls hl
  have hl : lv_has ls 3 [(0, .ref (E.2.2 + c)), (1, .int x1)] := hl
  exact b_X6_holdBack_0 l S hr hlk hK N c tc σ τ x1 h hw hl
/-! X9_startFrom -/
def B_X9_startFrom_0 (N : Nat) (σ : gI) (τ : gJ) (x2 : Int32) (x3 : Int32) : Option (Unit × gI × gJ) := bd (B_X6_copy_0 N 164 30 σ τ) fun _ σ_1 τ_1 => nm (up2 σ_1 160 5 x2) fun σ_2 => nm (up2 σ_2 160 6 x3) fun σ_3 => bd (B_X1_seesOthers_0 N σ_3 τ_1) fun r_4 σ_4 τ_4 => if r_4 = 0 then (bd (B_X6_holdBack_0 N 164 σ_4 τ_4 (x2 ^^^ (-1))) fun _ σ_6 τ_6 => some ((), σ_6, τ_6)) else (some ((), σ_4, τ_4))
set_option maxHeartbeats 4000000 in
set_option maxRecDepth 100000 in
theorem b_X9_startFrom_0 (l : Launch) (S : CallFix P9 m9 C9 cX9_startFrom 4 s av.toArray gx_G RX9) (hr : meth.sig.returnType = none) (hlk : meth.locks = false) (hK : gx_K E s) (N : Nat) (σ : gI) (τ : gJ) (x2 : Int32) (x3 : Int32) {r : Unit} {σ1 : gI} {τ1 : gJ} (h : B_X9_startFrom_0 N σ τ x2 x3 = some (r, σ1, τ1)) {H : Heap} {locs : List Loc} {ls : Array Slot} (hw : gx_W gx_tb gx_tb.length E s σ τ H locs) (hl : lv_has ls 4 [(0, .ref (E.2.2 + 160)), (1, .ref (E.2.2 + 30)), (2, .int x2), (3, .int x3)]) : W P9 l e9 (gx_rm 1) s m9 av.toArray below meth C9 H locs 0 0 (gq_Qv below av s E σ1 τ1) (F0 m9 0 ls []) := by
  have hx := S.1
  have hb := S.2.1
  unfold B_X9_startFrom_0 at h
  refine lv_aload_n hx hb dX9_startFrom_0 rfl (lv_at hl 0 rfl) ?_
  refine gx_getr (j := 164) S hK hw t_160 cl_10 7 (by decide) rfl mw_423 rfl dX9_startFrom_1 ?_
  refine lv_aload_n hx hb dX9_startFrom_4 rfl (lv_at hl 1 rfl) ?_
  obtain ⟨u_1, σ_1, τ_1, q_1, h⟩ := bd_some h
  refine gx_cVv (As := [.ref (E.2.2 + 30)]) (rest := []) S hK gx_ok hw (c_X6_copy l (E := E) N 164 30 is_164 is_30 σ τ q_1) cw_X9_63 t_164 cl_7 ⟨Nat.le_of_ble_eq_true rfl, Nat.le_of_ble_eq_true rfl⟩ rfl hl.1 rfl (Nat.le_of_ble_eq_true rfl) ⟨Nat.le_of_ble_eq_true rfl, Nat.le_of_ble_eq_true rfl⟩ dX9_startFrom_5 (fun σ9 τ9 H locs hp hw => ?_)
  obtain ⟨rfl, rfl⟩ := hp
  refine lv_aload_n hx hb dX9_startFrom_8 rfl (lv_at hl 0 rfl) ?_
  refine lv_iload_n hx hb dX9_startFrom_9 rfl (lv_at hl 2 rfl) ?_
  refine gx_put S hK gx_ok hw t_160 cl_10 5 (by decide) rfl mw_421 rfl rfl (ty := .int) (v := x2) (by decide +kernel) rfl rfl dX9_startFrom_10 (fun H locs hw => ?_)
  obtain ⟨σ_2, e_2, h⟩ := nm_some h
  rw [← e_2] at hw
  refine lv_aload_n hx hb dX9_startFrom_13 rfl (lv_at hl 0 rfl) ?_
  refine lv_iload_n hx hb dX9_startFrom_14 rfl (lv_at hl 3 rfl) ?_
  refine gx_put S hK gx_ok hw t_160 cl_10 6 (by decide) rfl mw_422 rfl rfl (ty := .int) (v := x3) (by decide +kernel) rfl rfl dX9_startFrom_15 (fun H locs hw => ?_)
  obtain ⟨σ_3, e_3, h⟩ := nm_some h
  rw [← e_3] at hw
  refine lv_aload_n hx hb dX9_startFrom_18 rfl (lv_at hl 0 rfl) ?_
  refine gx_getr (j := 158) S hK hw t_160 cl_10 1 (by decide) rfl mw_417 rfl dX9_startFrom_19 ?_
  obtain ⟨r_4, σ_4, τ_4, q_4, h⟩ := bd_some h
  refine gx_cVi (As := []) (rest := []) S hK gx_ok hw (c_X1_seesOthers l (E := E) N σ_3 τ_1 q_4) cw_X9_67 t_158 cl_2 ⟨Nat.le_of_ble_eq_true rfl, Nat.le_of_ble_eq_true rfl⟩ rfl hl.1 rfl (Nat.le_of_ble_eq_true rfl) ⟨Nat.le_of_ble_eq_true rfl, Nat.le_of_ble_eq_true rfl⟩ dX9_startFrom_22 (fun r9 σ9 τ9 H locs hp hw => ?_)
  obtain ⟨rfl, rfl, rfl⟩ := hp
  refine lv_if_ne (tgt := 38) hx hb dX9_startFrom_25 (by decide) (fun c_5 => ?_) (fun c_5 => ?_)
  · rw [if_neg c_5] at h
    obtain ⟨-, rfl, rfl⟩ := sm_inj h
    exact gx_rv (post := gq_v σ_4 τ_4) S hr hlk hw dX9_startFrom_38 ⟨rfl, rfl⟩
  · rw [if_pos c_5] at h
    refine lv_aload_n hx hb dX9_startFrom_28 rfl (lv_at hl 0 rfl) ?_
    refine gx_getr (j := 164) S hK hw t_160 cl_10 7 (by decide) rfl mw_423 rfl dX9_startFrom_29 ?_
    refine lv_iload_n hx hb dX9_startFrom_32 rfl (lv_at hl 2 rfl) ?_
    refine lv_iconst (v := (-1)) hx hb dX9_startFrom_33 (by decide) ?_
    refine lv_ixor hx hb dX9_startFrom_34 ?_
    obtain ⟨u_6, σ_6, τ_6, q_6, h⟩ := bd_some h
    refine gx_cVv (As := [.int (x2 ^^^ (-1))]) (rest := []) S hK gx_ok hw (c_X6_holdBack l (E := E) N 164 is_164 σ_4 τ_4 (x2 ^^^ (-1)) q_6) cw_X9_73 t_164 cl_7 ⟨Nat.le_of_ble_eq_true rfl, Nat.le_of_ble_eq_true rfl⟩ rfl hl.1 rfl (Nat.le_of_ble_eq_true rfl) ⟨Nat.le_of_ble_eq_true rfl, Nat.le_of_ble_eq_true rfl⟩ dX9_startFrom_35 (fun σ9 τ9 H locs hp hw => ?_)
    obtain ⟨rfl, rfl⟩ := hp
    obtain ⟨-, rfl, rfl⟩ := sm_inj h
    exact gx_rv (post := gq_v σ_6 τ_6) S hr hlk hw dX9_startFrom_38 ⟨rfl, rfl⟩
set_option maxHeartbeats 4000000 in
set_option maxRecDepth 100000 in
theorem c_X9_startFrom (l : Launch) {E : gE} (N : Nat) (σ : gI) (τ : gJ) (x2 : Int32) (x3 : Int32) {r : Unit} {σ1 : gI} {τ1 : gJ} (h : B_X9_startFrom_0 N σ τ x2 x3 = some (r, σ1, τ1)) : gx_Mv l yX9_startFrom cX9_startFrom 4 none 1 gx_tb E σ τ [.ref (E.2.2 + 160), .ref (E.2.2 + 30), .int x2, .int x3] (gq_v σ1 τ1) := by
  refine gx_bv (by decide +kernel) (Nat.le_of_ble_eq_true rfl) ?_
  intro P9 e9 s m9 below meth C9 S hr hlk hK hw ls hl
  have hl : lv_has ls 4 [(0, .ref (E.2.2 + 160)), (1, .ref (E.2.2 + 30)), (2, .int x2), (3, .int x3)] := hl
  exact b_X9_startFrom_0 l S hr hlk hK N σ τ x2 x3 h hw hl
/-! X6_setStart -/
def B_X6_setStart_0 (N : Nat) (c : Nat) (σ : gI) (τ : gJ) (x1 : Int32) (x2 : Int32) : Option (Unit × gI × gJ) := if x1 < 0 then (some ((), σ, τ)) else (if 6 ≤ x1 then (some ((), σ, τ)) else (ck x1 6 fun j_3 => nm (up2 σ (c + 5) j_3 x2) fun σ_4 => some ((), σ_4, τ)))
set_option maxHeartbeats 4000000 in
set_option maxRecDepth 100000 in
theorem b_X6_setStart_0 (l : Launch) (S : CallFix P9 m9 C9 cX6_setStart 3 s av.toArray gx_G RX6) (hr : meth.sig.returnType = none) (hlk : meth.locks = false) (hK : gx_K E s) (N : Nat) (c : Nat) (tc : gx_isS c) (σ : gI) (τ : gJ) (x1 : Int32) (x2 : Int32) {r : Unit} {σ1 : gI} {τ1 : gJ} (h : B_X6_setStart_0 N c σ τ x1 x2 = some (r, σ1, τ1)) {H : Heap} {locs : List Loc} {ls : Array Slot} (hw : gx_W gx_tb gx_tb.length E s σ τ H locs) (hl : lv_has ls 3 [(0, .ref (E.2.2 + c)), (1, .int x1), (2, .int x2)]) : W P9 l e9 (gx_rm 0) s m9 av.toArray below meth C9 H locs 0 0 (gq_Qv below av s E σ1 τ1) (F0 m9 0 ls []) := by
  have hx := S.1
  have hb := S.2.1
  unfold B_X6_setStart_0 at h
  refine lv_iload_n hx hb dX6_setStart_0 rfl (lv_at hl 1 rfl) ?_
  refine lv_if_lt (tgt := 17) hx hb dX6_setStart_1 (by decide) (fun c_1 => ?_) (fun c_1 => ?_)
  · rw [if_pos c_1] at h
    obtain ⟨-, rfl, rfl⟩ := sm_inj h
    exact gx_rv (post := gq_v σ τ) S hr hlk hw dX6_setStart_17 ⟨rfl, rfl⟩
  · rw [if_neg c_1] at h
    refine lv_iload_n hx hb dX6_setStart_4 rfl (lv_at hl 1 rfl) ?_
    refine lv_bipush (v := 6) hx hb dX6_setStart_5 (by decide) ?_
    refine lv_icmp_ge (tgt := 17) hx hb dX6_setStart_7 (by decide) (fun c_2 => ?_) (fun c_2 => ?_)
    · rw [if_pos c_2] at h
      obtain ⟨-, rfl, rfl⟩ := sm_inj h
      exact gx_rv (post := gq_v σ τ) S hr hlk hw dX6_setStart_17 ⟨rfl, rfl⟩
    · rw [if_neg c_2] at h
      refine lv_aload_n hx hb dX6_setStart_10 rfl (lv_at hl 0 rfl) ?_
      refine gx_getr (j := c + 5) S hK hw tc.1 cl_7 4 (by decide) rfl mw_268 rfl dX6_setStart_11 ?_
      refine lv_iload_n hx hb dX6_setStart_14 rfl (lv_at hl 1 rfl) ?_
      refine lv_iload_n hx hb dX6_setStart_15 rfl (lv_at hl 2 rfl) ?_
      obtain ⟨j_3, hj_3, hi_3, h⟩ := ck_some h
      refine gx_iast S hK gx_ok hw (iS_5 tc) j_3 hj_3 hi_3 dX6_setStart_16 (fun H locs hw => ?_)
      obtain ⟨σ_4, e_4, h⟩ := nm_some h
      rw [← e_4] at hw
      obtain ⟨-, rfl, rfl⟩ := sm_inj h
      exact gx_rv (post := gq_v σ_4 τ) S hr hlk hw dX6_setStart_17 ⟨rfl, rfl⟩
set_option maxHeartbeats 4000000 in
set_option maxRecDepth 100000 in
theorem c_X6_setStart (l : Launch) {E : gE} (N : Nat) (c : Nat) (tc : gx_isS c) (σ : gI) (τ : gJ) (x1 : Int32) (x2 : Int32) {r : Unit} {σ1 : gI} {τ1 : gJ} (h : B_X6_setStart_0 N c σ τ x1 x2 = some (r, σ1, τ1)) : gx_Mv l yX6_setStart cX6_setStart 3 none 0 gx_tb E σ τ [.ref (E.2.2 + c), .int x1, .int x2] (gq_v σ1 τ1) := by
  refine gx_bv (by decide +kernel) (Nat.le_of_ble_eq_true rfl) ?_
  intro P9 e9 s m9 below meth C9 S hr hlk hK hw ls hl
  have hl : lv_has ls 3 [(0, .ref (E.2.2 + c)), (1, .int x1), (2, .int x2)] := hl
  exact b_X6_setStart_0 l S hr hlk hK N c tc σ τ x1 x2 h hw hl
/-! X11_order -/
def C_X11_order_72 (N : Nat) (rec_50 : gI → gJ → Int32 → Int32 → Int32 → Option (Int32 × gI × gJ)) (rec_72 : gI → gJ → Int32 → Int32 → Int32 → Int32 → Int32 → Int32 → Option (Int32 × gI × gJ)) (σ : gI) (τ : gJ) (x1 : Int32) (x2 : Int32) (x3 : Int32) (x4 : Int32) (x5 : Int32) (x6 : Int32) : Option (Int32 × gI × gJ) := if imin 9 x3 < x6 then (if x4 ≤ 0 then (nm (x3 + 1) fun v_3 => rec_50 σ τ x1 x2 v_3) else (bd (B_X4_tell___0 N σ τ x5.toInt64 ((x3 - x5).toInt64) x4.toInt64) fun _ σ_4 τ_4 => some (x3, σ_4, τ_4))) else (bd (B_X6_setStart_0 N 164 σ τ x1 ((σ 30 8) + x6)) fun _ σ_5 τ_5 => bd (B_X6_setStart_0 N 164 σ_5 τ_5 x2 (((σ_5 30 8) + x3) - x6)) fun _ σ_6 τ_6 => bd (B_X9_go_0 N σ_6 τ_6 (σ_6 30 7)) fun r_7 σ_7 τ_7 => if r_7 = (-1) then (nm (x6 + 1) fun v_9 => rec_72 σ_7 τ_7 x1 x2 x3 x4 x5 v_9) else (if x4 = 0 then (nm (x4 + 1) fun v_13 => nm (x6 + 1) fun v_14 => rec_72 σ_7 τ_7 x1 x2 x3 v_13 x6 v_14) else (nm (x4 + 1) fun v_11 => nm (x6 + 1) fun v_12 => rec_72 σ_7 τ_7 x1 x2 x3 v_11 x5 v_12)))
def H_X11_order_72 (N : Nat) (rec_50 : gI → gJ → Int32 → Int32 → Int32 → Option (Int32 × gI × gJ)) : Nat → gI → gJ → Int32 → Int32 → Int32 → Int32 → Int32 → Int32 → Option (Int32 × gI × gJ) := itn (fun rec_72 => C_X11_order_72 N rec_50 rec_72) (fun _ _ _ _ _ _ _ _ => none)
def C_X11_order_50 (N : Nat) (rec_50 : gI → gJ → Int32 → Int32 → Int32 → Option (Int32 × gI × gJ)) (σ : gI) (τ : gJ) (x1 : Int32) (x2 : Int32) (x3 : Int32) : Option (Int32 × gI × gJ) := if 18 < x3 then (some ((-2), σ, τ)) else (nm (imax 0 (x3 - 9)) fun v_2 => H_X11_order_72 N rec_50 N σ τ x1 x2 x3 0 (-1) v_2)
def H_X11_order_50 (N : Nat) : Nat → gI → gJ → Int32 → Int32 → Int32 → Option (Int32 × gI × gJ) := itn (fun rec_50 => C_X11_order_50 N rec_50) (fun _ _ _ _ _ => none)
def B_X11_order_0 (N : Nat) (σ : gI) (τ : gJ) (x1 : Int32) (x2 : Int32) : Option (Int32 × gI × gJ) := if x1 = x2 then (some ((-1), σ, τ)) else (bd (B_X6_isOnWay_0 N 30 σ τ x1) fun r_2 σ_2 τ_2 => if r_2 = 0 then (some ((-1), σ_2, τ_2)) else (bd (B_X6_isOnWay_0 N 30 σ_2 τ_2 x2) fun r_4 σ_4 τ_4 => if r_4 = 0 then (some ((-1), σ_4, τ_4)) else (bd (B_X9_startFrom_0 N σ_4 τ_4 ((1 <<< (x1 &&& 31)) ||| (1 <<< (x2 &&& 31))) x1) fun _ σ_6 τ_6 => H_X11_order_50 N N σ_6 τ_6 x1 x2 0)))
set_option maxHeartbeats 4000000 in
set_option maxRecDepth 100000 in
theorem k_X11_order_72 (l : Launch) (S : CallFix P9 m9 C9 cX11_order 7 s av.toArray gx_G RX11) (hr : meth.sig.returnType = (some .int)) (hlk : meth.locks = false) (hK : gx_K E s) (N : Nat) (rec_50 : gI → gJ → Int32 → Int32 → Int32 → Option (Int32 × gI × gJ)) (hrec_50 : ∀ (σ : gI) (τ : gJ) (x1 : Int32) (x2 : Int32) (x3 : Int32) (r : Int32) (σ1 : gI) (τ1 : gJ) (H : Heap) (locs : List Loc) (ls : Array Slot), rec_50 σ τ x1 x2 x3 = some (r, σ1, τ1) → gx_W gx_tb gx_tb.length E s σ τ H locs → lv_has ls 7 [(0, .ref (E.2.2 + 0)), (1, .int x1), (2, .int x2), (3, .int x3)] → W P9 l e9 (gx_rm 5) s m9 av.toArray below meth C9 H locs 0 0 (gq_Qi below av s E r σ1 τ1) (F0 m9 50 ls [])) (rec_72 : gI → gJ → Int32 → Int32 → Int32 → Int32 → Int32 → Int32 → Option (Int32 × gI × gJ)) (hrec_72 : ∀ (σ : gI) (τ : gJ) (x1 : Int32) (x2 : Int32) (x3 : Int32) (x4 : Int32) (x5 : Int32) (x6 : Int32) (r : Int32) (σ1 : gI) (τ1 : gJ) (H : Heap) (locs : List Loc) (ls : Array Slot), rec_72 σ τ x1 x2 x3 x4 x5 x6 = some (r, σ1, τ1) → gx_W gx_tb gx_tb.length E s σ τ H locs → lv_has ls 7 [(0, .ref (E.2.2 + 0)), (1, .int x1), (2, .int x2), (3, .int x3), (4, .int x4), (5, .int x5), (6, .int x6)] → W P9 l e9 (gx_rm 5) s m9 av.toArray below meth C9 H locs 0 0 (gq_Qi below av s E r σ1 τ1) (F0 m9 72 ls [])) (σ : gI) (τ : gJ) (x1 : Int32) (x2 : Int32) (x3 : Int32) (x4 : Int32) (x5 : Int32) (x6 : Int32) {r : Int32} {σ1 : gI} {τ1 : gJ} (h : C_X11_order_72 N rec_50 rec_72 σ τ x1 x2 x3 x4 x5 x6 = some (r, σ1, τ1)) {H : Heap} {locs : List Loc} {ls : Array Slot} (hw : gx_W gx_tb gx_tb.length E s σ τ H locs) (hl : lv_has ls 7 [(0, .ref (E.2.2 + 0)), (1, .int x1), (2, .int x2), (3, .int x3), (4, .int x4), (5, .int x5), (6, .int x6)]) : W P9 l e9 (gx_rm 5) s m9 av.toArray below meth C9 H locs 0 0 (gq_Qi below av s E r σ1 τ1) (F0 m9 72 ls []) := by
  have hx := S.1
  have hb := S.2.1
  unfold C_X11_order_72 at h
  refine lv_iload hx hb dX11_order_72 (lv_at hl 6 rfl) ?_
  refine lv_bipush (v := 9) hx hb dX11_order_74 (by decide) ?_
  refine lv_iload_n hx hb dX11_order_76 rfl (lv_at hl 3 rfl) ?_
  refine gx_min (w := imin 9 x3) S hl.1 mw_788 mw_529 mw_102 mw_530 ⟨Nat.le_of_ble_eq_true rfl, Nat.le_of_ble_eq_true rfl⟩ ⟨Nat.le_of_ble_eq_true rfl, Nat.le_of_ble_eq_true rfl⟩ dX11_order_77 rfl ?_
  refine lv_icmp_gt (tgt := 168) hx hb dX11_order_80 (by decide) (fun c_1 => ?_) (fun c_1 => ?_)
  · rw [if_pos c_1] at h
    refine lv_iload hx hb dX11_order_168 (lv_at hl 4 rfl) ?_
    refine lv_if_le (tgt := 193) hx hb dX11_order_170 (by decide) (fun c_2 => ?_) (fun c_2 => ?_)
    · rw [if_pos c_2] at h
      refine lv_iinc (v := x3 + 1) (lv' := [(3, .int (x3 + 1)), (0, .ref (E.2.2 + 0)), (1, .int x1), (2, .int x2), (4, .int x4), (5, .int x5), (6, .int x6)]) hx hb dX11_order_193 hl (k := 3) rfl rfl (by decide) rfl (fun ls hl => ?_)
      obtain ⟨v_3, e_3, h⟩ := nm_some h
      have hl : lv_has ls 7 [(3, .int v_3), (0, .ref (E.2.2 + 0)), (1, .int x1), (2, .int x2), (4, .int x4), (5, .int x5), (6, .int x6)] := by rw [e_3]; exact hl
      refine lv_goto (tgt := 50) hx hb dX11_order_196 (by decide) ?_
      exact hrec_50 σ τ x1 x2 v_3 _ _ _ _ _ _ h hw (lv_sub hl [1, 2, 3, 0] rfl)
    · rw [if_neg c_2] at h
      refine lv_aload_n hx hb dX11_order_173 rfl (lv_at hl 0 rfl) ?_
      refine gx_getr (j := 156) S hK hw t_0 cl_12 13 (by decide) rfl mw_460 rfl dX11_order_174 ?_
      refine lv_iload hx hb dX11_order_177 (lv_at hl 5 rfl) ?_
      refine lv_i2l (v := x5.toInt64) hx hb dX11_order_179 rfl ?_
      refine lv_iload_n hx hb dX11_order_180 rfl (lv_at hl 3 rfl) ?_
      refine lv_iload hx hb dX11_order_181 (lv_at hl 5 rfl) ?_
      refine lv_isub hx hb dX11_order_183 ?_
      refine lv_i2l (v := (x3 - x5).toInt64) hx hb dX11_order_184 rfl ?_
      refine lv_iload hx hb dX11_order_185 (lv_at hl 4 rfl) ?_
      refine lv_i2l (v := x4.toInt64) hx hb dX11_order_187 rfl ?_
      obtain ⟨u_4, σ_4, τ_4, q_4, h⟩ := bd_some h
      refine gx_cVv (As := [.long x5.toInt64, .long ((x3 - x5).toInt64), .long x4.toInt64]) (rest := []) S hK gx_ok hw (c_X4_tell__ l (E := E) N σ τ x5.toInt64 ((x3 - x5).toInt64) x4.toInt64 q_4) cw_X11_300 t_156 cl_5 ⟨Nat.le_of_ble_eq_true rfl, Nat.le_of_ble_eq_true rfl⟩ rfl hl.1 rfl (Nat.le_of_ble_eq_true rfl) ⟨Nat.le_of_ble_eq_true rfl, Nat.le_of_ble_eq_true rfl⟩ dX11_order_188 (fun σ9 τ9 H locs hp hw => ?_)
      obtain ⟨rfl, rfl⟩ := hp
      refine lv_iload_n hx hb dX11_order_191 rfl (lv_at hl 3 rfl) ?_
      obtain ⟨rfl, rfl, rfl⟩ := sm_inj h
      exact gx_ri (post := gq_p x3 σ_4 τ_4) (v := x3) S hr hlk hw rfl dX11_order_192 ⟨rfl, rfl, rfl⟩
  · rw [if_neg c_1] at h
    refine lv_aload_n hx hb dX11_order_83 rfl (lv_at hl 0 rfl) ?_
    refine gx_getr (j := 160) S hK hw t_0 cl_12 15 (by decide) rfl mw_462 rfl dX11_order_84 ?_
    refine gx_getr (j := 164) S hK hw t_160 cl_10 7 (by decide) rfl mw_424 rfl dX11_order_87 ?_
    refine lv_iload_n hx hb dX11_order_90 rfl (lv_at hl 1 rfl) ?_
    refine lv_aload_n hx hb dX11_order_91 rfl (lv_at hl 0 rfl) ?_
    refine gx_getr (j := 30) S hK hw t_0 cl_12 7 (by decide) rfl mw_454 rfl dX11_order_92 ?_
    refine gx_get S hK hw t_30 cl_7 8 (by decide) rfl mw_280 rfl dX11_order_95 ?_
    refine lv_iload hx hb dX11_order_98 (lv_at hl 6 rfl) ?_
    refine lv_iadd hx hb dX11_order_100 ?_
    obtain ⟨u_5, σ_5, τ_5, q_5, h⟩ := bd_some h
    refine gx_cVv (As := [.int x1, .int ((σ 30 8) + x6)]) (rest := []) S hK gx_ok hw (c_X6_setStart l (E := E) N 164 is_164 σ τ x1 ((σ 30 8) + x6) q_5) cw_X11_417 t_164 cl_7 ⟨Nat.le_of_ble_eq_true rfl, Nat.le_of_ble_eq_true rfl⟩ rfl hl.1 rfl (Nat.le_of_ble_eq_true rfl) ⟨Nat.le_of_ble_eq_true rfl, Nat.le_of_ble_eq_true rfl⟩ dX11_order_101 (fun σ9 τ9 H locs hp hw => ?_)
    obtain ⟨rfl, rfl⟩ := hp
    refine lv_aload_n hx hb dX11_order_104 rfl (lv_at hl 0 rfl) ?_
    refine gx_getr (j := 160) S hK hw t_0 cl_12 15 (by decide) rfl mw_462 rfl dX11_order_105 ?_
    refine gx_getr (j := 164) S hK hw t_160 cl_10 7 (by decide) rfl mw_424 rfl dX11_order_108 ?_
    refine lv_iload_n hx hb dX11_order_111 rfl (lv_at hl 2 rfl) ?_
    refine lv_aload_n hx hb dX11_order_112 rfl (lv_at hl 0 rfl) ?_
    refine gx_getr (j := 30) S hK hw t_0 cl_12 7 (by decide) rfl mw_454 rfl dX11_order_113 ?_
    refine gx_get S hK hw t_30 cl_7 8 (by decide) rfl mw_280 rfl dX11_order_116 ?_
    refine lv_iload_n hx hb dX11_order_119 rfl (lv_at hl 3 rfl) ?_
    refine lv_iadd hx hb dX11_order_120 ?_
    refine lv_iload hx hb dX11_order_121 (lv_at hl 6 rfl) ?_
    refine lv_isub hx hb dX11_order_123 ?_
    obtain ⟨u_6, σ_6, τ_6, q_6, h⟩ := bd_some h
    refine gx_cVv (As := [.int x2, .int (((σ_5 30 8) + x3) - x6)]) (rest := []) S hK gx_ok hw (c_X6_setStart l (E := E) N 164 is_164 σ_5 τ_5 x2 (((σ_5 30 8) + x3) - x6) q_6) cw_X11_417 t_164 cl_7 ⟨Nat.le_of_ble_eq_true rfl, Nat.le_of_ble_eq_true rfl⟩ rfl hl.1 rfl (Nat.le_of_ble_eq_true rfl) ⟨Nat.le_of_ble_eq_true rfl, Nat.le_of_ble_eq_true rfl⟩ dX11_order_124 (fun σ9 τ9 H locs hp hw => ?_)
    obtain ⟨rfl, rfl⟩ := hp
    refine lv_aload_n hx hb dX11_order_127 rfl (lv_at hl 0 rfl) ?_
    refine gx_getr (j := 160) S hK hw t_0 cl_12 15 (by decide) rfl mw_462 rfl dX11_order_128 ?_
    refine lv_aload_n hx hb dX11_order_131 rfl (lv_at hl 0 rfl) ?_
    refine gx_getr (j := 30) S hK hw t_0 cl_12 7 (by decide) rfl mw_454 rfl dX11_order_132 ?_
    refine gx_get S hK hw t_30 cl_7 7 (by decide) rfl mw_276 rfl dX11_order_135 ?_
    obtain ⟨r_7, σ_7, τ_7, q_7, h⟩ := bd_some h
    refine gx_cVi (As := [.int (σ_6 30 7)]) (rest := []) S hK gx_ok hw (c_X9_go l (E := E) N σ_6 τ_6 (σ_6 30 7) q_7) cw_X11_420 t_160 cl_10 ⟨Nat.le_of_ble_eq_true rfl, Nat.le_of_ble_eq_true rfl⟩ rfl hl.1 rfl (Nat.le_of_ble_eq_true rfl) ⟨Nat.le_of_ble_eq_true rfl, Nat.le_of_ble_eq_true rfl⟩ dX11_order_138 (fun r9 σ9 τ9 H locs hp hw => ?_)
    obtain ⟨rfl, rfl, rfl⟩ := hp
    refine lv_iconst (v := (-1)) hx hb dX11_order_141 (by decide) ?_
    refine lv_icmp_eq (tgt := 162) hx hb dX11_order_142 (by decide) (fun c_8 => ?_) (fun c_8 => ?_)
    · rw [if_pos c_8] at h
      refine lv_iinc (v := x6 + 1) (lv' := [(6, .int (x6 + 1)), (0, .ref (E.2.2 + 0)), (1, .int x1), (2, .int x2), (3, .int x3), (4, .int x4), (5, .int x5)]) hx hb dX11_order_162 hl (k := 6) rfl rfl (by decide) rfl (fun ls hl => ?_)
      obtain ⟨v_9, e_9, h⟩ := nm_some h
      have hl : lv_has ls 7 [(6, .int v_9), (0, .ref (E.2.2 + 0)), (1, .int x1), (2, .int x2), (3, .int x3), (4, .int x4), (5, .int x5)] := by rw [e_9]; exact hl
      refine lv_goto (tgt := 72) hx hb dX11_order_165 (by decide) ?_
      exact hrec_72 σ_7 τ_7 x1 x2 x3 x4 x5 v_9 _ _ _ _ _ _ h hw (lv_sub hl [1, 2, 3, 4, 5, 6, 0] rfl)
    · rw [if_neg c_8] at h
      refine lv_iload hx hb dX11_order_145 (lv_at hl 4 rfl) ?_
      refine lv_if_ne (tgt := 155) hx hb dX11_order_147 (by decide) (fun c_10 => ?_) (fun c_10 => ?_)
      · rw [if_neg c_10] at h
        refine lv_iload hx hb dX11_order_155 (lv_at hl 5 rfl) ?_
        refine lv_istore (lv' := [(5, .int x5), (0, .ref (E.2.2 + 0)), (1, .int x1), (2, .int x2), (3, .int x3), (4, .int x4), (6, .int x6)]) hx hb dX11_order_157 hl (by decide) rfl (fun ls hl => ?_)
        refine lv_iinc (v := x4 + 1) (lv' := [(4, .int (x4 + 1)), (5, .int x5), (0, .ref (E.2.2 + 0)), (1, .int x1), (2, .int x2), (3, .int x3), (6, .int x6)]) hx hb dX11_order_159 hl (k := 5) rfl rfl (by decide) rfl (fun ls hl => ?_)
        obtain ⟨v_11, e_11, h⟩ := nm_some h
        have hl : lv_has ls 7 [(4, .int v_11), (5, .int x5), (0, .ref (E.2.2 + 0)), (1, .int x1), (2, .int x2), (3, .int x3), (6, .int x6)] := by rw [e_11]; exact hl
        refine lv_iinc (v := x6 + 1) (lv' := [(6, .int (x6 + 1)), (4, .int v_11), (5, .int x5), (0, .ref (E.2.2 + 0)), (1, .int x1), (2, .int x2), (3, .int x3)]) hx hb dX11_order_162 hl (k := 6) rfl rfl (by decide) rfl (fun ls hl => ?_)
        obtain ⟨v_12, e_12, h⟩ := nm_some h
        have hl : lv_has ls 7 [(6, .int v_12), (4, .int v_11), (5, .int x5), (0, .ref (E.2.2 + 0)), (1, .int x1), (2, .int x2), (3, .int x3)] := by rw [e_12]; exact hl
        refine lv_goto (tgt := 72) hx hb dX11_order_165 (by decide) ?_
        exact hrec_72 σ_7 τ_7 x1 x2 x3 v_11 x5 v_12 _ _ _ _ _ _ h hw (lv_sub hl [3, 4, 5, 6, 1, 2, 0] rfl)
      · rw [if_pos c_10] at h
        refine lv_iload hx hb dX11_order_150 (lv_at hl 6 rfl) ?_
        refine lv_goto (tgt := 157) hx hb dX11_order_152 (by decide) ?_
        refine lv_istore (lv' := [(5, .int x6), (0, .ref (E.2.2 + 0)), (1, .int x1), (2, .int x2), (3, .int x3), (4, .int x4), (6, .int x6)]) hx hb dX11_order_157 hl (by decide) rfl (fun ls hl => ?_)
        refine lv_iinc (v := x4 + 1) (lv' := [(4, .int (x4 + 1)), (5, .int x6), (0, .ref (E.2.2 + 0)), (1, .int x1), (2, .int x2), (3, .int x3), (6, .int x6)]) hx hb dX11_order_159 hl (k := 5) rfl rfl (by decide) rfl (fun ls hl => ?_)
        obtain ⟨v_13, e_13, h⟩ := nm_some h
        have hl : lv_has ls 7 [(4, .int v_13), (5, .int x6), (0, .ref (E.2.2 + 0)), (1, .int x1), (2, .int x2), (3, .int x3), (6, .int x6)] := by rw [e_13]; exact hl
        refine lv_iinc (v := x6 + 1) (lv' := [(6, .int (x6 + 1)), (4, .int v_13), (5, .int x6), (0, .ref (E.2.2 + 0)), (1, .int x1), (2, .int x2), (3, .int x3)]) hx hb dX11_order_162 hl (k := 6) rfl rfl (by decide) rfl (fun ls hl => ?_)
        obtain ⟨v_14, e_14, h⟩ := nm_some h
        have hl : lv_has ls 7 [(6, .int v_14), (4, .int v_13), (5, .int x6), (0, .ref (E.2.2 + 0)), (1, .int x1), (2, .int x2), (3, .int x3)] := by rw [e_14]; exact hl
        refine lv_goto (tgt := 72) hx hb dX11_order_165 (by decide) ?_
        exact hrec_72 σ_7 τ_7 x1 x2 x3 v_13 x6 v_14 _ _ _ _ _ _ h hw (lv_sub hl [3, 4, 5, 6, 1, 2, 0] rfl)
set_option maxHeartbeats 4000000 in
set_option maxRecDepth 100000 in
theorem h_X11_order_72 (l : Launch) (S : CallFix P9 m9 C9 cX11_order 7 s av.toArray gx_G RX11) (hr : meth.sig.returnType = (some .int)) (hlk : meth.locks = false) (hK : gx_K E s) (N : Nat) (rec_50 : gI → gJ → Int32 → Int32 → Int32 → Option (Int32 × gI × gJ)) (hrec_50 : ∀ (σ : gI) (τ : gJ) (x1 : Int32) (x2 : Int32) (x3 : Int32) (r : Int32) (σ1 : gI) (τ1 : gJ) (H : Heap) (locs : List Loc) (ls : Array Slot), rec_50 σ τ x1 x2 x3 = some (r, σ1, τ1) → gx_W gx_tb gx_tb.length E s σ τ H locs → lv_has ls 7 [(0, .ref (E.2.2 + 0)), (1, .int x1), (2, .int x2), (3, .int x3)] → W P9 l e9 (gx_rm 5) s m9 av.toArray below meth C9 H locs 0 0 (gq_Qi below av s E r σ1 τ1) (F0 m9 50 ls [])) : ∀ (n : Nat) (σ : gI) (τ : gJ) (x1 : Int32) (x2 : Int32) (x3 : Int32) (x4 : Int32) (x5 : Int32) (x6 : Int32) (r : Int32) (σ1 : gI) (τ1 : gJ), H_X11_order_72 N rec_50 n σ τ x1 x2 x3 x4 x5 x6 = some (r, σ1, τ1) → ∀ (H : Heap) (locs : List Loc) (ls : Array Slot), gx_W gx_tb gx_tb.length E s σ τ H locs → lv_has ls 7 [(0, .ref (E.2.2 + 0)), (1, .int x1), (2, .int x2), (3, .int x3), (4, .int x4), (5, .int x5), (6, .int x6)] → W P9 l e9 (gx_rm 5) s m9 av.toArray below meth C9 H locs 0 0 (gq_Qi below av s E r σ1 τ1) (F0 m9 72 ls []) := by
  intro n
  induction n with
  | zero => intro σ τ x1 x2 x3 x4 x5 x6 r σ1 τ1 h; cases h
  | succ n ih =>
    intro σ τ x1 x2 x3 x4 x5 x6 r σ1 τ1 h H locs ls hw hl
    exact k_X11_order_72 l S hr hlk hK N rec_50 hrec_50 (H_X11_order_72 N rec_50 n) (fun σ τ x1 x2 x3 x4 x5 x6 r σ1 τ1 H locs ls h hw hl => ih σ τ x1 x2 x3 x4 x5 x6 r σ1 τ1 h H locs ls hw hl) σ τ x1 x2 x3 x4 x5 x6 h hw hl
set_option maxHeartbeats 4000000 in
set_option maxRecDepth 100000 in
theorem k_X11_order_50 (l : Launch) (S : CallFix P9 m9 C9 cX11_order 7 s av.toArray gx_G RX11) (hr : meth.sig.returnType = (some .int)) (hlk : meth.locks = false) (hK : gx_K E s) (N : Nat) (rec_50 : gI → gJ → Int32 → Int32 → Int32 → Option (Int32 × gI × gJ)) (hrec_50 : ∀ (σ : gI) (τ : gJ) (x1 : Int32) (x2 : Int32) (x3 : Int32) (r : Int32) (σ1 : gI) (τ1 : gJ) (H : Heap) (locs : List Loc) (ls : Array Slot), rec_50 σ τ x1 x2 x3 = some (r, σ1, τ1) → gx_W gx_tb gx_tb.length E s σ τ H locs → lv_has ls 7 [(0, .ref (E.2.2 + 0)), (1, .int x1), (2, .int x2), (3, .int x3)] → W P9 l e9 (gx_rm 5) s m9 av.toArray below meth C9 H locs 0 0 (gq_Qi below av s E r σ1 τ1) (F0 m9 50 ls [])) (σ : gI) (τ : gJ) (x1 : Int32) (x2 : Int32) (x3 : Int32) {r : Int32} {σ1 : gI} {τ1 : gJ} (h : C_X11_order_50 N rec_50 σ τ x1 x2 x3 = some (r, σ1, τ1)) {H : Heap} {locs : List Loc} {ls : Array Slot} (hw : gx_W gx_tb gx_tb.length E s σ τ H locs) (hl : lv_has ls 7 [(0, .ref (E.2.2 + 0)), (1, .int x1), (2, .int x2), (3, .int x3)]) : W P9 l e9 (gx_rm 5) s m9 av.toArray below meth C9 H locs 0 0 (gq_Qi below av s E r σ1 τ1) (F0 m9 50 ls []) := by
  have hx := S.1
  have hb := S.2.1
  unfold C_X11_order_50 at h
  refine lv_iload_n hx hb dX11_order_50 rfl (lv_at hl 3 rfl) ?_
  refine lv_bipush (v := 18) hx hb dX11_order_51 (by decide) ?_
  refine lv_icmp_gt (tgt := 199) hx hb dX11_order_53 (by decide) (fun c_1 => ?_) (fun c_1 => ?_)
  · rw [if_pos c_1] at h
    refine lv_bipush (v := (-2)) hx hb dX11_order_199 (by decide) ?_
    obtain ⟨rfl, rfl, rfl⟩ := sm_inj h
    exact gx_ri (post := gq_p (-2) σ τ) (v := (-2)) S hr hlk hw rfl dX11_order_201 ⟨rfl, rfl, rfl⟩
  · rw [if_neg c_1] at h
    refine lv_iconst (v := 0) hx hb dX11_order_56 (by decide) ?_
    refine lv_istore (lv' := [(4, .int 0), (0, .ref (E.2.2 + 0)), (1, .int x1), (2, .int x2), (3, .int x3)]) hx hb dX11_order_57 hl (by decide) rfl (fun ls hl => ?_)
    refine lv_iconst (v := (-1)) hx hb dX11_order_59 (by decide) ?_
    refine lv_istore (lv' := [(5, .int (-1)), (4, .int 0), (0, .ref (E.2.2 + 0)), (1, .int x1), (2, .int x2), (3, .int x3)]) hx hb dX11_order_60 hl (by decide) rfl (fun ls hl => ?_)
    refine lv_iconst (v := 0) hx hb dX11_order_62 (by decide) ?_
    refine lv_iload_n hx hb dX11_order_63 rfl (lv_at hl 5 rfl) ?_
    refine lv_bipush (v := 9) hx hb dX11_order_64 (by decide) ?_
    refine lv_isub hx hb dX11_order_66 ?_
    refine gx_max (w := imax 0 (x3 - 9)) S hl.1 mw_789 mw_577 mw_102 mw_578 ⟨Nat.le_of_ble_eq_true rfl, Nat.le_of_ble_eq_true rfl⟩ ⟨Nat.le_of_ble_eq_true rfl, Nat.le_of_ble_eq_true rfl⟩ dX11_order_67 rfl ?_
    refine lv_istore (lv' := [(6, .int (imax 0 (x3 - 9))), (5, .int (-1)), (4, .int 0), (0, .ref (E.2.2 + 0)), (1, .int x1), (2, .int x2), (3, .int x3)]) hx hb dX11_order_70 hl (by decide) rfl (fun ls hl => ?_)
    obtain ⟨v_2, e_2, h⟩ := nm_some h
    have hl : lv_has ls 7 [(6, .int v_2), (5, .int (-1)), (4, .int 0), (0, .ref (E.2.2 + 0)), (1, .int x1), (2, .int x2), (3, .int x3)] := by rw [e_2]; exact hl
    exact h_X11_order_72 l S hr hlk hK N rec_50 hrec_50 N σ τ x1 x2 x3 0 (-1) v_2 _ _ _ h _ _ _ hw (lv_sub hl [3, 4, 5, 6, 2, 1, 0] rfl)
set_option maxHeartbeats 4000000 in
set_option maxRecDepth 100000 in
theorem h_X11_order_50 (l : Launch) (S : CallFix P9 m9 C9 cX11_order 7 s av.toArray gx_G RX11) (hr : meth.sig.returnType = (some .int)) (hlk : meth.locks = false) (hK : gx_K E s) (N : Nat) : ∀ (n : Nat) (σ : gI) (τ : gJ) (x1 : Int32) (x2 : Int32) (x3 : Int32) (r : Int32) (σ1 : gI) (τ1 : gJ), H_X11_order_50 N n σ τ x1 x2 x3 = some (r, σ1, τ1) → ∀ (H : Heap) (locs : List Loc) (ls : Array Slot), gx_W gx_tb gx_tb.length E s σ τ H locs → lv_has ls 7 [(0, .ref (E.2.2 + 0)), (1, .int x1), (2, .int x2), (3, .int x3)] → W P9 l e9 (gx_rm 5) s m9 av.toArray below meth C9 H locs 0 0 (gq_Qi below av s E r σ1 τ1) (F0 m9 50 ls []) := by
  intro n
  induction n with
  | zero => intro σ τ x1 x2 x3 r σ1 τ1 h; cases h
  | succ n ih =>
    intro σ τ x1 x2 x3 r σ1 τ1 h H locs ls hw hl
    exact k_X11_order_50 l S hr hlk hK N (H_X11_order_50 N n) (fun σ τ x1 x2 x3 r σ1 τ1 H locs ls h hw hl => ih σ τ x1 x2 x3 r σ1 τ1 h H locs ls hw hl) σ τ x1 x2 x3 h hw hl
set_option maxHeartbeats 4000000 in
set_option maxRecDepth 100000 in
theorem b_X11_order_0 (l : Launch) (S : CallFix P9 m9 C9 cX11_order 7 s av.toArray gx_G RX11) (hr : meth.sig.returnType = (some .int)) (hlk : meth.locks = false) (hK : gx_K E s) (N : Nat) (σ : gI) (τ : gJ) (x1 : Int32) (x2 : Int32) {r : Int32} {σ1 : gI} {τ1 : gJ} (h : B_X11_order_0 N σ τ x1 x2 = some (r, σ1, τ1)) {H : Heap} {locs : List Loc} {ls : Array Slot} (hw : gx_W gx_tb gx_tb.length E s σ τ H locs) (hl : lv_has ls 7 [(0, .ref (E.2.2 + 0)), (1, .int x1), (2, .int x2)]) : W P9 l e9 (gx_rm 5) s m9 av.toArray below meth C9 H locs 0 0 (gq_Qi below av s E r σ1 τ1) (F0 m9 0 ls []) := by
  have hx := S.1
  have hb := S.2.1
  unfold B_X11_order_0 at h
  refine lv_iload_n hx hb dX11_order_0 rfl (lv_at hl 1 rfl) ?_
  refine lv_iload_n hx hb dX11_order_1 rfl (lv_at hl 2 rfl) ?_
  refine lv_icmp_eq (tgt := 27) hx hb dX11_order_2 (by decide) (fun c_1 => ?_) (fun c_1 => ?_)
  · rw [if_pos c_1] at h
    refine lv_iconst (v := (-1)) hx hb dX11_order_27 (by decide) ?_
    obtain ⟨rfl, rfl, rfl⟩ := sm_inj h
    exact gx_ri (post := gq_p (-1) σ τ) (v := (-1)) S hr hlk hw rfl dX11_order_28 ⟨rfl, rfl, rfl⟩
  · rw [if_neg c_1] at h
    refine lv_aload_n hx hb dX11_order_5 rfl (lv_at hl 0 rfl) ?_
    refine gx_getr (j := 30) S hK hw t_0 cl_12 7 (by decide) rfl mw_454 rfl dX11_order_6 ?_
    refine lv_iload_n hx hb dX11_order_9 rfl (lv_at hl 1 rfl) ?_
    obtain ⟨r_2, σ_2, τ_2, q_2, h⟩ := bd_some h
    refine gx_cVi (As := [.int x1]) (rest := []) S hK gx_ok hw (c_X6_isOnWay l (E := E) N 30 is_30 σ τ x1 q_2) cw_X11_241 t_30 cl_7 ⟨Nat.le_of_ble_eq_true rfl, Nat.le_of_ble_eq_true rfl⟩ rfl hl.1 rfl (Nat.le_of_ble_eq_true rfl) ⟨Nat.le_of_ble_eq_true rfl, Nat.le_of_ble_eq_true rfl⟩ dX11_order_10 (fun r9 σ9 τ9 H locs hp hw => ?_)
    obtain ⟨rfl, rfl, rfl⟩ := hp
    refine lv_if_eq (tgt := 27) hx hb dX11_order_13 (by decide) (fun c_3 => ?_) (fun c_3 => ?_)
    · rw [if_pos c_3] at h
      refine lv_iconst (v := (-1)) hx hb dX11_order_27 (by decide) ?_
      obtain ⟨rfl, rfl, rfl⟩ := sm_inj h
      exact gx_ri (post := gq_p (-1) σ_2 τ_2) (v := (-1)) S hr hlk hw rfl dX11_order_28 ⟨rfl, rfl, rfl⟩
    · rw [if_neg c_3] at h
      refine lv_aload_n hx hb dX11_order_16 rfl (lv_at hl 0 rfl) ?_
      refine gx_getr (j := 30) S hK hw t_0 cl_12 7 (by decide) rfl mw_454 rfl dX11_order_17 ?_
      refine lv_iload_n hx hb dX11_order_20 rfl (lv_at hl 2 rfl) ?_
      obtain ⟨r_4, σ_4, τ_4, q_4, h⟩ := bd_some h
      refine gx_cVi (As := [.int x2]) (rest := []) S hK gx_ok hw (c_X6_isOnWay l (E := E) N 30 is_30 σ_2 τ_2 x2 q_4) cw_X11_241 t_30 cl_7 ⟨Nat.le_of_ble_eq_true rfl, Nat.le_of_ble_eq_true rfl⟩ rfl hl.1 rfl (Nat.le_of_ble_eq_true rfl) ⟨Nat.le_of_ble_eq_true rfl, Nat.le_of_ble_eq_true rfl⟩ dX11_order_21 (fun r9 σ9 τ9 H locs hp hw => ?_)
      obtain ⟨rfl, rfl, rfl⟩ := hp
      refine lv_if_ne (tgt := 29) hx hb dX11_order_24 (by decide) (fun c_5 => ?_) (fun c_5 => ?_)
      · rw [if_neg c_5] at h
        refine lv_aload_n hx hb dX11_order_29 rfl (lv_at hl 0 rfl) ?_
        refine gx_getr (j := 160) S hK hw t_0 cl_12 15 (by decide) rfl mw_462 rfl dX11_order_30 ?_
        refine lv_aload_n hx hb dX11_order_33 rfl (lv_at hl 0 rfl) ?_
        refine gx_getr (j := 30) S hK hw t_0 cl_12 7 (by decide) rfl mw_454 rfl dX11_order_34 ?_
        refine lv_iconst (v := 1) hx hb dX11_order_37 (by decide) ?_
        refine lv_iload_n hx hb dX11_order_38 rfl (lv_at hl 1 rfl) ?_
        refine lv_ishl hx hb dX11_order_39 ?_
        refine lv_iconst (v := 1) hx hb dX11_order_40 (by decide) ?_
        refine lv_iload_n hx hb dX11_order_41 rfl (lv_at hl 2 rfl) ?_
        refine lv_ishl hx hb dX11_order_42 ?_
        refine lv_ior hx hb dX11_order_43 ?_
        refine lv_iload_n hx hb dX11_order_44 rfl (lv_at hl 1 rfl) ?_
        obtain ⟨u_6, σ_6, τ_6, q_6, h⟩ := bd_some h
        refine gx_cVv (As := [.ref (E.2.2 + 30), .int ((1 <<< (x1 &&& 31)) ||| (1 <<< (x2 &&& 31))), .int x1]) (rest := []) S hK gx_ok hw (c_X9_startFrom l (E := E) N σ_4 τ_4 ((1 <<< (x1 &&& 31)) ||| (1 <<< (x2 &&& 31))) x1 q_6) cw_X11_343 t_160 cl_10 ⟨Nat.le_of_ble_eq_true rfl, Nat.le_of_ble_eq_true rfl⟩ rfl hl.1 rfl (Nat.le_of_ble_eq_true rfl) ⟨Nat.le_of_ble_eq_true rfl, Nat.le_of_ble_eq_true rfl⟩ dX11_order_45 (fun σ9 τ9 H locs hp hw => ?_)
        obtain ⟨rfl, rfl⟩ := hp
        refine lv_iconst (v := 0) hx hb dX11_order_48 (by decide) ?_
        refine lv_istore_n (lv' := [(3, .int 0), (0, .ref (E.2.2 + 0)), (1, .int x1), (2, .int x2)]) hx hb dX11_order_49 rfl hl (by decide) rfl (fun ls hl => ?_)
        exact h_X11_order_50 l S hr hlk hK N N σ_6 τ_6 x1 x2 0 _ _ _ h _ _ _ hw (lv_sub hl [1, 2, 3, 0] rfl)
      · rw [if_pos c_5] at h
        refine lv_iconst (v := (-1)) hx hb dX11_order_27 (by decide) ?_
        obtain ⟨rfl, rfl, rfl⟩ := sm_inj h
        exact gx_ri (post := gq_p (-1) σ_4 τ_4) (v := (-1)) S hr hlk hw rfl dX11_order_28 ⟨rfl, rfl, rfl⟩
set_option maxHeartbeats 4000000 in
set_option maxRecDepth 100000 in
theorem c_X11_order (l : Launch) {E : gE} (N : Nat) (σ : gI) (τ : gJ) (x1 : Int32) (x2 : Int32) {r : Int32} {σ1 : gI} {τ1 : gJ} (h : B_X11_order_0 N σ τ x1 x2 = some (r, σ1, τ1)) : gx_Mi l yX11_order cX11_order 7 (some .int) 5 gx_tb E σ τ [.ref (E.2.2 + 0), .int x1, .int x2] (gq_p r σ1 τ1) := by
  refine gx_bi (by decide +kernel) (Nat.le_of_ble_eq_true rfl) ?_
  intro P9 e9 s m9 below meth C9 S hr hlk hK hw ls hl
  have hl : lv_has ls 7 [(0, .ref (E.2.2 + 0)), (1, .int x1), (2, .int x2)] := hl
  exact b_X11_order_0 l S hr hlk hK N σ τ x1 x2 h hw hl
/-! X11_plank -/
def B_X11_plank_0 (N : Nat) (σ : gI) (τ : gJ) (x1 : Int32) (x2 : Int32) : Option (Int32 × gI × gJ) := bd (B_X8_isFork_0 N σ τ x1) fun r_1 σ_1 τ_1 => if r_1 = 0 then (some (0, σ_1, τ_1)) else (if x2 < 0 then (some (0, σ_1, τ_1)) else (if x2 ≤ 1 then (bd (B_X3_push_0 N 30 σ_1 τ_1) fun _ σ_5 τ_5 => nm (up2 σ_5 30 7 (((σ_5 30 7) &&& ((1 <<< (x1 &&& 31)) ^^^ (-1))) ||| (x2 <<< (x1 &&& 31)))) fun σ_6 => some (1, σ_6, τ_5)) else (some (0, σ_1, τ_1))))
set_option maxHeartbeats 4000000 in
set_option maxRecDepth 100000 in
theorem b_X11_plank_0 (l : Launch) (S : CallFix P9 m9 C9 cX11_plank 3 s av.toArray gx_G RX11) (hr : meth.sig.returnType = (some .boolean)) (hlk : meth.locks = false) (hK : gx_K E s) (N : Nat) (σ : gI) (τ : gJ) (x1 : Int32) (x2 : Int32) {r : Int32} {σ1 : gI} {τ1 : gJ} (h : B_X11_plank_0 N σ τ x1 x2 = some (r, σ1, τ1)) {H : Heap} {locs : List Loc} {ls : Array Slot} (hw : gx_W gx_tb gx_tb.length E s σ τ H locs) (hl : lv_has ls 3 [(0, .ref (E.2.2 + 0)), (1, .int x1), (2, .int x2)]) : W P9 l e9 (gx_rm 2) s m9 av.toArray below meth C9 H locs 0 0 (gq_Qi below av s E r σ1 τ1) (F0 m9 0 ls []) := by
  have hx := S.1
  have hb := S.2.1
  unfold B_X11_plank_0 at h
  refine lv_aload_n hx hb dX11_plank_0 rfl (lv_at hl 0 rfl) ?_
  refine gx_getr (j := 3) S hK hw t_0 cl_12 1 (by decide) rfl mw_448 rfl dX11_plank_1 ?_
  refine lv_iload_n hx hb dX11_plank_4 rfl (lv_at hl 1 rfl) ?_
  obtain ⟨r_1, σ_1, τ_1, q_1, h⟩ := bd_some h
  refine gx_cVi (As := [.int x1]) (rest := []) S hK gx_ok hw (c_X8_isFork l (E := E) N σ τ x1 q_1) cw_X11_201 t_3 cl_9 ⟨Nat.le_of_ble_eq_true rfl, Nat.le_of_ble_eq_true rfl⟩ rfl hl.1 rfl (Nat.le_of_ble_eq_true rfl) ⟨Nat.le_of_ble_eq_true rfl, Nat.le_of_ble_eq_true rfl⟩ dX11_plank_5 (fun r9 σ9 τ9 H locs hp hw => ?_)
  obtain ⟨rfl, rfl, rfl⟩ := hp
  refine lv_if_eq (tgt := 20) hx hb dX11_plank_8 (by decide) (fun c_2 => ?_) (fun c_2 => ?_)
  · rw [if_pos c_2] at h
    refine lv_iconst (v := 0) hx hb dX11_plank_20 (by decide) ?_
    obtain ⟨rfl, rfl, rfl⟩ := sm_inj h
    exact gx_ri (post := gq_p 0 σ_1 τ_1) (v := 0) S hr hlk hw rfl dX11_plank_21 ⟨rfl, rfl, rfl⟩
  · rw [if_neg c_2] at h
    refine lv_iload_n hx hb dX11_plank_11 rfl (lv_at hl 2 rfl) ?_
    refine lv_if_lt (tgt := 20) hx hb dX11_plank_12 (by decide) (fun c_3 => ?_) (fun c_3 => ?_)
    · rw [if_pos c_3] at h
      refine lv_iconst (v := 0) hx hb dX11_plank_20 (by decide) ?_
      obtain ⟨rfl, rfl, rfl⟩ := sm_inj h
      exact gx_ri (post := gq_p 0 σ_1 τ_1) (v := 0) S hr hlk hw rfl dX11_plank_21 ⟨rfl, rfl, rfl⟩
    · rw [if_neg c_3] at h
      refine lv_iload_n hx hb dX11_plank_15 rfl (lv_at hl 2 rfl) ?_
      refine lv_iconst (v := 1) hx hb dX11_plank_16 (by decide) ?_
      refine lv_icmp_le (tgt := 22) hx hb dX11_plank_17 (by decide) (fun c_4 => ?_) (fun c_4 => ?_)
      · rw [if_pos c_4] at h
        refine lv_aload_n hx hb dX11_plank_22 rfl (lv_at hl 0 rfl) ?_
        refine gx_getr (j := 44) S hK hw t_0 cl_12 9 (by decide) rfl mw_456 rfl dX11_plank_23 ?_
        refine lv_aload_n hx hb dX11_plank_26 rfl (lv_at hl 0 rfl) ?_
        refine gx_getr (j := 30) S hK hw t_0 cl_12 7 (by decide) rfl mw_454 rfl dX11_plank_27 ?_
        obtain ⟨u_5, σ_5, τ_5, q_5, h⟩ := bd_some h
        refine gx_cVv (As := [.ref (E.2.2 + 30)]) (rest := []) S hK gx_ok hw (c_X3_push l (E := E) N 30 is_30 σ_1 τ_1 q_5) cw_X11_204 t_44 cl_4 ⟨Nat.le_of_ble_eq_true rfl, Nat.le_of_ble_eq_true rfl⟩ rfl hl.1 rfl (Nat.le_of_ble_eq_true rfl) ⟨Nat.le_of_ble_eq_true rfl, Nat.le_of_ble_eq_true rfl⟩ dX11_plank_30 (fun σ9 τ9 H locs hp hw => ?_)
        obtain ⟨rfl, rfl⟩ := hp
        refine lv_aload_n hx hb dX11_plank_33 rfl (lv_at hl 0 rfl) ?_
        refine gx_getr (j := 30) S hK hw t_0 cl_12 7 (by decide) rfl mw_454 rfl dX11_plank_34 ?_
        refine lv_aload_n hx hb dX11_plank_37 rfl (lv_at hl 0 rfl) ?_
        refine gx_getr (j := 30) S hK hw t_0 cl_12 7 (by decide) rfl mw_454 rfl dX11_plank_38 ?_
        refine gx_get S hK hw t_30 cl_7 7 (by decide) rfl mw_276 rfl dX11_plank_41 ?_
        refine lv_iconst (v := 1) hx hb dX11_plank_44 (by decide) ?_
        refine lv_iload_n hx hb dX11_plank_45 rfl (lv_at hl 1 rfl) ?_
        refine lv_ishl hx hb dX11_plank_46 ?_
        refine lv_iconst (v := (-1)) hx hb dX11_plank_47 (by decide) ?_
        refine lv_ixor hx hb dX11_plank_48 ?_
        refine lv_iand hx hb dX11_plank_49 ?_
        refine lv_iload_n hx hb dX11_plank_50 rfl (lv_at hl 2 rfl) ?_
        refine lv_iload_n hx hb dX11_plank_51 rfl (lv_at hl 1 rfl) ?_
        refine lv_ishl hx hb dX11_plank_52 ?_
        refine lv_ior hx hb dX11_plank_53 ?_
        refine gx_put S hK gx_ok hw t_30 cl_7 7 (by decide) rfl mw_276 rfl rfl (ty := .int) (v := ((σ_5 30 7) &&& ((1 <<< (x1 &&& 31)) ^^^ (-1))) ||| (x2 <<< (x1 &&& 31))) (by decide +kernel) rfl rfl dX11_plank_54 (fun H locs hw => ?_)
        obtain ⟨σ_6, e_6, h⟩ := nm_some h
        rw [← e_6] at hw
        refine lv_iconst (v := 1) hx hb dX11_plank_57 (by decide) ?_
        obtain ⟨rfl, rfl, rfl⟩ := sm_inj h
        exact gx_ri (post := gq_p 1 σ_6 τ_5) (v := 1) S hr hlk hw rfl dX11_plank_58 ⟨rfl, rfl, rfl⟩
      · rw [if_neg c_4] at h
        refine lv_iconst (v := 0) hx hb dX11_plank_20 (by decide) ?_
        obtain ⟨rfl, rfl, rfl⟩ := sm_inj h
        exact gx_ri (post := gq_p 0 σ_1 τ_1) (v := 0) S hr hlk hw rfl dX11_plank_21 ⟨rfl, rfl, rfl⟩
set_option maxHeartbeats 4000000 in
set_option maxRecDepth 100000 in
theorem c_X11_plank (l : Launch) {E : gE} (N : Nat) (σ : gI) (τ : gJ) (x1 : Int32) (x2 : Int32) {r : Int32} {σ1 : gI} {τ1 : gJ} (h : B_X11_plank_0 N σ τ x1 x2 = some (r, σ1, τ1)) : gx_Mi l yX11_plank cX11_plank 3 (some .boolean) 2 gx_tb E σ τ [.ref (E.2.2 + 0), .int x1, .int x2] (gq_p r σ1 τ1) := by
  refine gx_bi (by decide +kernel) (Nat.le_of_ble_eq_true rfl) ?_
  intro P9 e9 s m9 below meth C9 S hr hlk hK hw ls hl
  have hl : lv_has ls 3 [(0, .ref (E.2.2 + 0)), (1, .int x1), (2, .int x2)] := hl
  exact b_X11_plank_0 l S hr hlk hK N σ τ x1 x2 h hw hl
/-! X11_put -/
def B_X11_put_0 (N : Nat) (σ : gI) (τ : gJ) (x1 : Int32) (x2 : Int32) (x3 : Int32) (x4 : Int32) : Option (Int32 × gI × gJ) := bd (B_X8_has_0 N σ τ x1) fun r_1 σ_1 τ_1 => if r_1 = 0 then (some ((-1), σ_1, τ_1)) else (bd (B_X11_isLoad_0 N σ_1 τ_1 x2 x3) fun r_3 σ_3 τ_3 => if r_3 = 0 then (some ((-1), σ_3, τ_3)) else (bd (B_X11_isWait_0 N σ_3 τ_3 x4) fun r_5 σ_5 τ_5 => if r_5 = 0 then (some ((-1), σ_5, τ_5)) else (if σ_5 30 6 < 6 then (bd (B_X3_push_0 N 30 σ_5 τ_5) fun _ σ_8 τ_8 => bd (B_X8_isKitchen_0 N σ_8 τ_8 x1) fun r_9 σ_9 τ_9 => bd (B_X6_add_0 N 30 σ_9 τ_9 x1 x2 x3 x4 r_9) fun r_10 σ_10 τ_10 => some (r_10, σ_10, τ_10)) else (some ((-2), σ_5, τ_5)))))
set_option maxHeartbeats 4000000 in
set_option maxRecDepth 100000 in
theorem b_X11_put_0 (l : Launch) (S : CallFix P9 m9 C9 cX11_put 5 s av.toArray gx_G RX11) (hr : meth.sig.returnType = (some .int)) (hlk : meth.locks = false) (hK : gx_K E s) (N : Nat) (σ : gI) (τ : gJ) (x1 : Int32) (x2 : Int32) (x3 : Int32) (x4 : Int32) {r : Int32} {σ1 : gI} {τ1 : gJ} (h : B_X11_put_0 N σ τ x1 x2 x3 x4 = some (r, σ1, τ1)) {H : Heap} {locs : List Loc} {ls : Array Slot} (hw : gx_W gx_tb gx_tb.length E s σ τ H locs) (hl : lv_has ls 5 [(0, .ref (E.2.2 + 0)), (1, .int x1), (2, .int x2), (3, .int x3), (4, .int x4)]) : W P9 l e9 (gx_rm 2) s m9 av.toArray below meth C9 H locs 0 0 (gq_Qi below av s E r σ1 τ1) (F0 m9 0 ls []) := by
  have hx := S.1
  have hb := S.2.1
  unfold B_X11_put_0 at h
  refine lv_aload_n hx hb dX11_put_0 rfl (lv_at hl 0 rfl) ?_
  refine gx_getr (j := 3) S hK hw t_0 cl_12 1 (by decide) rfl mw_448 rfl dX11_put_1 ?_
  refine lv_iload_n hx hb dX11_put_4 rfl (lv_at hl 1 rfl) ?_
  obtain ⟨r_1, σ_1, τ_1, q_1, h⟩ := bd_some h
  refine gx_cVi (As := [.int x1]) (rest := []) S hK gx_ok hw (c_X8_has l (E := E) N σ τ x1 q_1) cw_X11_137 t_3 cl_9 ⟨Nat.le_of_ble_eq_true rfl, Nat.le_of_ble_eq_true rfl⟩ rfl hl.1 rfl (Nat.le_of_ble_eq_true rfl) ⟨Nat.le_of_ble_eq_true rfl, Nat.le_of_ble_eq_true rfl⟩ dX11_put_5 (fun r9 σ9 τ9 H locs hp hw => ?_)
  obtain ⟨rfl, rfl, rfl⟩ := hp
  refine lv_if_eq (tgt := 27) hx hb dX11_put_8 (by decide) (fun c_2 => ?_) (fun c_2 => ?_)
  · rw [if_pos c_2] at h
    refine lv_iconst (v := (-1)) hx hb dX11_put_27 (by decide) ?_
    obtain ⟨rfl, rfl, rfl⟩ := sm_inj h
    exact gx_ri (post := gq_p (-1) σ_1 τ_1) (v := (-1)) S hr hlk hw rfl dX11_put_28 ⟨rfl, rfl, rfl⟩
  · rw [if_neg c_2] at h
    refine lv_iload_n hx hb dX11_put_11 rfl (lv_at hl 2 rfl) ?_
    refine lv_iload_n hx hb dX11_put_12 rfl (lv_at hl 3 rfl) ?_
    obtain ⟨r_3, σ_3, τ_3, q_3, h⟩ := bd_some h
    refine gx_cSi (As := [.int x2, .int x3]) (rest := []) S hK gx_ok hw (c_X11_isLoad l (E := E) N σ_1 τ_1 x2 x3 q_3) cw_X11_227 ⟨Nat.le_of_ble_eq_true rfl, Nat.le_of_ble_eq_true rfl⟩ rfl hl.1 rfl (Nat.le_of_ble_eq_true rfl) ⟨Nat.le_of_ble_eq_true rfl, Nat.le_of_ble_eq_true rfl⟩ dX11_put_13 (fun r9 σ9 τ9 H locs hp hw => ?_)
    obtain ⟨rfl, rfl, rfl⟩ := hp
    refine lv_if_eq (tgt := 27) hx hb dX11_put_16 (by decide) (fun c_4 => ?_) (fun c_4 => ?_)
    · rw [if_pos c_4] at h
      refine lv_iconst (v := (-1)) hx hb dX11_put_27 (by decide) ?_
      obtain ⟨rfl, rfl, rfl⟩ := sm_inj h
      exact gx_ri (post := gq_p (-1) σ_3 τ_3) (v := (-1)) S hr hlk hw rfl dX11_put_28 ⟨rfl, rfl, rfl⟩
    · rw [if_neg c_4] at h
      refine lv_iload hx hb dX11_put_19 (lv_at hl 4 rfl) ?_
      obtain ⟨r_5, σ_5, τ_5, q_5, h⟩ := bd_some h
      refine gx_cSi (As := [.int x4]) (rest := []) S hK gx_ok hw (c_X11_isWait l (E := E) N σ_3 τ_3 x4 q_5) cw_X11_231 ⟨Nat.le_of_ble_eq_true rfl, Nat.le_of_ble_eq_true rfl⟩ rfl hl.1 rfl (Nat.le_of_ble_eq_true rfl) ⟨Nat.le_of_ble_eq_true rfl, Nat.le_of_ble_eq_true rfl⟩ dX11_put_21 (fun r9 σ9 τ9 H locs hp hw => ?_)
      obtain ⟨rfl, rfl, rfl⟩ := hp
      refine lv_if_ne (tgt := 29) hx hb dX11_put_24 (by decide) (fun c_6 => ?_) (fun c_6 => ?_)
      · rw [if_neg c_6] at h
        refine lv_aload_n hx hb dX11_put_29 rfl (lv_at hl 0 rfl) ?_
        refine gx_getr (j := 30) S hK hw t_0 cl_12 7 (by decide) rfl mw_454 rfl dX11_put_30 ?_
        refine gx_get S hK hw t_30 cl_7 6 (by decide) rfl mw_272 rfl dX11_put_33 ?_
        refine lv_bipush (v := 6) hx hb dX11_put_36 (by decide) ?_
        refine lv_icmp_lt (tgt := 44) hx hb dX11_put_38 (by decide) (fun c_7 => ?_) (fun c_7 => ?_)
        · rw [if_pos c_7] at h
          refine lv_aload_n hx hb dX11_put_44 rfl (lv_at hl 0 rfl) ?_
          refine gx_getr (j := 44) S hK hw t_0 cl_12 9 (by decide) rfl mw_456 rfl dX11_put_45 ?_
          refine lv_aload_n hx hb dX11_put_48 rfl (lv_at hl 0 rfl) ?_
          refine gx_getr (j := 30) S hK hw t_0 cl_12 7 (by decide) rfl mw_454 rfl dX11_put_49 ?_
          obtain ⟨u_8, σ_8, τ_8, q_8, h⟩ := bd_some h
          refine gx_cVv (As := [.ref (E.2.2 + 30)]) (rest := []) S hK gx_ok hw (c_X3_push l (E := E) N 30 is_30 σ_5 τ_5 q_8) cw_X11_204 t_44 cl_4 ⟨Nat.le_of_ble_eq_true rfl, Nat.le_of_ble_eq_true rfl⟩ rfl hl.1 rfl (Nat.le_of_ble_eq_true rfl) ⟨Nat.le_of_ble_eq_true rfl, Nat.le_of_ble_eq_true rfl⟩ dX11_put_52 (fun σ9 τ9 H locs hp hw => ?_)
          obtain ⟨rfl, rfl⟩ := hp
          refine lv_aload_n hx hb dX11_put_55 rfl (lv_at hl 0 rfl) ?_
          refine gx_getr (j := 30) S hK hw t_0 cl_12 7 (by decide) rfl mw_454 rfl dX11_put_56 ?_
          refine lv_iload_n hx hb dX11_put_59 rfl (lv_at hl 1 rfl) ?_
          refine lv_iload_n hx hb dX11_put_60 rfl (lv_at hl 2 rfl) ?_
          refine lv_iload_n hx hb dX11_put_61 rfl (lv_at hl 3 rfl) ?_
          refine lv_iload hx hb dX11_put_62 (lv_at hl 4 rfl) ?_
          refine lv_aload_n hx hb dX11_put_64 rfl (lv_at hl 0 rfl) ?_
          refine gx_getr (j := 3) S hK hw t_0 cl_12 1 (by decide) rfl mw_448 rfl dX11_put_65 ?_
          refine lv_iload_n hx hb dX11_put_68 rfl (lv_at hl 1 rfl) ?_
          obtain ⟨r_9, σ_9, τ_9, q_9, h⟩ := bd_some h
          refine gx_cVi (As := [.int x1]) (rest := [.int x4, .int x3, .int x2, .int x1, .ref (E.2.2 + 30)]) S hK gx_ok hw (c_X8_isKitchen l (E := E) N σ_8 τ_8 x1 q_9) cw_X11_234 t_3 cl_9 ⟨Nat.le_of_ble_eq_true rfl, Nat.le_of_ble_eq_true rfl⟩ rfl hl.1 rfl (Nat.le_of_ble_eq_true rfl) ⟨Nat.le_of_ble_eq_true rfl, Nat.le_of_ble_eq_true rfl⟩ dX11_put_69 (fun r9 σ9 τ9 H locs hp hw => ?_)
          obtain ⟨rfl, rfl, rfl⟩ := hp
          obtain ⟨r_10, σ_10, τ_10, q_10, h⟩ := bd_some h
          refine gx_cVi (As := [.int x1, .int x2, .int x3, .int x4, .int r_9]) (rest := []) S hK gx_ok hw (c_X6_add l (E := E) N 30 is_30 σ_9 τ_9 x1 x2 x3 x4 r_9 q_10) cw_X11_237 t_30 cl_7 ⟨Nat.le_of_ble_eq_true rfl, Nat.le_of_ble_eq_true rfl⟩ rfl hl.1 rfl (Nat.le_of_ble_eq_true rfl) ⟨Nat.le_of_ble_eq_true rfl, Nat.le_of_ble_eq_true rfl⟩ dX11_put_72 (fun r9 σ9 τ9 H locs hp hw => ?_)
          obtain ⟨rfl, rfl, rfl⟩ := hp
          obtain ⟨rfl, rfl, rfl⟩ := sm_inj h
          exact gx_ri (post := gq_p r_10 σ_10 τ_10) (v := r_10) S hr hlk hw rfl dX11_put_75 ⟨rfl, rfl, rfl⟩
        · rw [if_neg c_7] at h
          refine lv_bipush (v := (-2)) hx hb dX11_put_41 (by decide) ?_
          obtain ⟨rfl, rfl, rfl⟩ := sm_inj h
          exact gx_ri (post := gq_p (-2) σ_5 τ_5) (v := (-2)) S hr hlk hw rfl dX11_put_43 ⟨rfl, rfl, rfl⟩
      · rw [if_pos c_6] at h
        refine lv_iconst (v := (-1)) hx hb dX11_put_27 (by decide) ?_
        obtain ⟨rfl, rfl, rfl⟩ := sm_inj h
        exact gx_ri (post := gq_p (-1) σ_5 τ_5) (v := (-1)) S hr hlk hw rfl dX11_put_28 ⟨rfl, rfl, rfl⟩
set_option maxHeartbeats 4000000 in
set_option maxRecDepth 100000 in
theorem c_X11_put (l : Launch) {E : gE} (N : Nat) (σ : gI) (τ : gJ) (x1 : Int32) (x2 : Int32) (x3 : Int32) (x4 : Int32) {r : Int32} {σ1 : gI} {τ1 : gJ} (h : B_X11_put_0 N σ τ x1 x2 x3 x4 = some (r, σ1, τ1)) : gx_Mi l yX11_put cX11_put 5 (some .int) 2 gx_tb E σ τ [.ref (E.2.2 + 0), .int x1, .int x2, .int x3, .int x4] (gq_p r σ1 τ1) := by
  refine gx_bi (by decide +kernel) (Nat.le_of_ble_eq_true rfl) ?_
  intro P9 e9 s m9 below meth C9 S hr hlk hK hw ls hl
  have hl : lv_has ls 5 [(0, .ref (E.2.2 + 0)), (1, .int x1), (2, .int x2), (3, .int x3), (4, .int x4)] := hl
  exact b_X11_put_0 l S hr hlk hK N σ τ x1 x2 x3 x4 h hw hl
/-! X9_circle -/
def C_X9_circle_10 (N : Nat) (rec_10 : gI → gJ → Int32 → Int32 → Int32 → Option (Int32 × gI × gJ)) (σ : gI) (τ : gJ) (x1 : Int32) (x2 : Int32) (x3 : Int32) : Option (Int32 × gI × gJ) := if x2 < x3 then (some ((-1), σ, τ)) else (bd (B_X1_pass_0 N 171 σ τ) fun _ σ_2 τ_2 => bd (B_X6_isOnWay_0 N 171 σ_2 τ_2 0) fun r_3 σ_3 τ_3 => if r_3 = 0 then (some ((-1), σ_3, τ_3)) else (if σ_3 158 6 ≤ 0 then (nm (x3 + 1) fun v_6 => rec_10 σ_3 τ_3 x1 x2 v_6) else (bd (B_X6_spotOf_0 N 171 σ_3 τ_3 0) fun r_7 σ_7 τ_7 => if r_7 = x1 then (some (x3, σ_7, τ_7)) else (nm (x3 + 1) fun v_9 => rec_10 σ_7 τ_7 x1 x2 v_9))))
def H_X9_circle_10 (N : Nat) : Nat → gI → gJ → Int32 → Int32 → Int32 → Option (Int32 × gI × gJ) := itn (fun rec_10 => C_X9_circle_10 N rec_10) (fun _ _ _ _ _ => none)
def B_X9_circle_0 (N : Nat) (σ : gI) (τ : gJ) (x1 : Int32) (x2 : Int32) : Option (Int32 × gI × gJ) := nm (up2 σ 158 6 0) fun σ_1 => H_X9_circle_10 N N σ_1 τ x1 x2 1
set_option maxHeartbeats 4000000 in
set_option maxRecDepth 100000 in
theorem k_X9_circle_10 (l : Launch) (S : CallFix P9 m9 C9 cX9_circle 4 s av.toArray gx_G RX9) (hr : meth.sig.returnType = (some .int)) (hlk : meth.locks = false) (hK : gx_K E s) (N : Nat) (rec_10 : gI → gJ → Int32 → Int32 → Int32 → Option (Int32 × gI × gJ)) (hrec_10 : ∀ (σ : gI) (τ : gJ) (x1 : Int32) (x2 : Int32) (x3 : Int32) (r : Int32) (σ1 : gI) (τ1 : gJ) (H : Heap) (locs : List Loc) (ls : Array Slot), rec_10 σ τ x1 x2 x3 = some (r, σ1, τ1) → gx_W gx_tb gx_tb.length E s σ τ H locs → lv_has ls 4 [(0, .ref (E.2.2 + 160)), (1, .int x1), (2, .int x2), (3, .int x3)] → W P9 l e9 (gx_rm 4) s m9 av.toArray below meth C9 H locs 0 0 (gq_Qi below av s E r σ1 τ1) (F0 m9 10 ls [])) (σ : gI) (τ : gJ) (x1 : Int32) (x2 : Int32) (x3 : Int32) {r : Int32} {σ1 : gI} {τ1 : gJ} (h : C_X9_circle_10 N rec_10 σ τ x1 x2 x3 = some (r, σ1, τ1)) {H : Heap} {locs : List Loc} {ls : Array Slot} (hw : gx_W gx_tb gx_tb.length E s σ τ H locs) (hl : lv_has ls 4 [(0, .ref (E.2.2 + 160)), (1, .int x1), (2, .int x2), (3, .int x3)]) : W P9 l e9 (gx_rm 4) s m9 av.toArray below meth C9 H locs 0 0 (gq_Qi below av s E r σ1 τ1) (F0 m9 10 ls []) := by
  have hx := S.1
  have hb := S.2.1
  unfold C_X9_circle_10 at h
  refine lv_iload_n hx hb dX9_circle_10 rfl (lv_at hl 3 rfl) ?_
  refine lv_iload_n hx hb dX9_circle_11 rfl (lv_at hl 2 rfl) ?_
  refine lv_icmp_gt (tgt := 69) hx hb dX9_circle_12 (by decide) (fun c_1 => ?_) (fun c_1 => ?_)
  · rw [if_pos c_1] at h
    refine lv_iconst (v := (-1)) hx hb dX9_circle_69 (by decide) ?_
    obtain ⟨rfl, rfl, rfl⟩ := sm_inj h
    exact gx_ri (post := gq_p (-1) σ τ) (v := (-1)) S hr hlk hw rfl dX9_circle_70 ⟨rfl, rfl, rfl⟩
  · rw [if_neg c_1] at h
    refine lv_aload_n hx hb dX9_circle_15 rfl (lv_at hl 0 rfl) ?_
    refine gx_getr (j := 158) S hK hw t_160 cl_10 1 (by decide) rfl mw_417 rfl dX9_circle_16 ?_
    refine lv_aload_n hx hb dX9_circle_19 rfl (lv_at hl 0 rfl) ?_
    refine gx_getr (j := 171) S hK hw t_160 cl_10 8 (by decide) rfl mw_425 rfl dX9_circle_20 ?_
    obtain ⟨u_2, σ_2, τ_2, q_2, h⟩ := bd_some h
    refine gx_cVv (As := [.ref (E.2.2 + 171)]) (rest := []) S hK gx_ok hw (c_X1_pass l (E := E) N 171 is_171 σ τ q_2) cw_X9_105 t_158 cl_2 ⟨Nat.le_of_ble_eq_true rfl, Nat.le_of_ble_eq_true rfl⟩ rfl hl.1 rfl (Nat.le_of_ble_eq_true rfl) ⟨Nat.le_of_ble_eq_true rfl, Nat.le_of_ble_eq_true rfl⟩ dX9_circle_23 (fun σ9 τ9 H locs hp hw => ?_)
    obtain ⟨rfl, rfl⟩ := hp
    refine lv_aload_n hx hb dX9_circle_26 rfl (lv_at hl 0 rfl) ?_
    refine gx_getr (j := 171) S hK hw t_160 cl_10 8 (by decide) rfl mw_425 rfl dX9_circle_27 ?_
    refine lv_iconst (v := 0) hx hb dX9_circle_30 (by decide) ?_
    obtain ⟨r_3, σ_3, τ_3, q_3, h⟩ := bd_some h
    refine gx_cVi (As := [.int 0]) (rest := []) S hK gx_ok hw (c_X6_isOnWay l (E := E) N 171 is_171 σ_2 τ_2 0 q_3) cw_X9_112 t_171 cl_7 ⟨Nat.le_of_ble_eq_true rfl, Nat.le_of_ble_eq_true rfl⟩ rfl hl.1 rfl (Nat.le_of_ble_eq_true rfl) ⟨Nat.le_of_ble_eq_true rfl, Nat.le_of_ble_eq_true rfl⟩ dX9_circle_31 (fun r9 σ9 τ9 H locs hp hw => ?_)
    obtain ⟨rfl, rfl, rfl⟩ := hp
    refine lv_if_ne (tgt := 39) hx hb dX9_circle_34 (by decide) (fun c_4 => ?_) (fun c_4 => ?_)
    · rw [if_neg c_4] at h
      refine lv_aload_n hx hb dX9_circle_39 rfl (lv_at hl 0 rfl) ?_
      refine gx_getr (j := 158) S hK hw t_160 cl_10 1 (by decide) rfl mw_417 rfl dX9_circle_40 ?_
      refine gx_get S hK hw t_158 cl_2 6 (by decide) rfl mw_380 rfl dX9_circle_43 ?_
      refine lv_if_le (tgt := 63) hx hb dX9_circle_46 (by decide) (fun c_5 => ?_) (fun c_5 => ?_)
      · rw [if_pos c_5] at h
        refine lv_iinc (v := x3 + 1) (lv' := [(3, .int (x3 + 1)), (0, .ref (E.2.2 + 160)), (1, .int x1), (2, .int x2)]) hx hb dX9_circle_63 hl (k := 3) rfl rfl (by decide) rfl (fun ls hl => ?_)
        obtain ⟨v_6, e_6, h⟩ := nm_some h
        have hl : lv_has ls 4 [(3, .int v_6), (0, .ref (E.2.2 + 160)), (1, .int x1), (2, .int x2)] := by rw [e_6]; exact hl
        refine lv_goto (tgt := 10) hx hb dX9_circle_66 (by decide) ?_
        exact hrec_10 σ_3 τ_3 x1 x2 v_6 _ _ _ _ _ _ h hw (lv_sub hl [1, 2, 3, 0] rfl)
      · rw [if_neg c_5] at h
        refine lv_aload_n hx hb dX9_circle_49 rfl (lv_at hl 0 rfl) ?_
        refine gx_getr (j := 171) S hK hw t_160 cl_10 8 (by decide) rfl mw_425 rfl dX9_circle_50 ?_
        refine lv_iconst (v := 0) hx hb dX9_circle_53 (by decide) ?_
        obtain ⟨r_7, σ_7, τ_7, q_7, h⟩ := bd_some h
        refine gx_cVi (As := [.int 0]) (rest := []) S hK gx_ok hw (c_X6_spotOf l (E := E) N 171 is_171 σ_3 τ_3 0 q_7) cw_X9_95 t_171 cl_7 ⟨Nat.le_of_ble_eq_true rfl, Nat.le_of_ble_eq_true rfl⟩ rfl hl.1 rfl (Nat.le_of_ble_eq_true rfl) ⟨Nat.le_of_ble_eq_true rfl, Nat.le_of_ble_eq_true rfl⟩ dX9_circle_54 (fun r9 σ9 τ9 H locs hp hw => ?_)
        obtain ⟨rfl, rfl, rfl⟩ := hp
        refine lv_iload_n hx hb dX9_circle_57 rfl (lv_at hl 1 rfl) ?_
        refine lv_icmp_ne (tgt := 63) hx hb dX9_circle_58 (by decide) (fun c_8 => ?_) (fun c_8 => ?_)
        · rw [if_neg c_8] at h
          refine lv_iinc (v := x3 + 1) (lv' := [(3, .int (x3 + 1)), (0, .ref (E.2.2 + 160)), (1, .int x1), (2, .int x2)]) hx hb dX9_circle_63 hl (k := 3) rfl rfl (by decide) rfl (fun ls hl => ?_)
          obtain ⟨v_9, e_9, h⟩ := nm_some h
          have hl : lv_has ls 4 [(3, .int v_9), (0, .ref (E.2.2 + 160)), (1, .int x1), (2, .int x2)] := by rw [e_9]; exact hl
          refine lv_goto (tgt := 10) hx hb dX9_circle_66 (by decide) ?_
          exact hrec_10 σ_7 τ_7 x1 x2 v_9 _ _ _ _ _ _ h hw (lv_sub hl [1, 2, 3, 0] rfl)
        · rw [if_pos c_8] at h
          refine lv_iload_n hx hb dX9_circle_61 rfl (lv_at hl 3 rfl) ?_
          obtain ⟨rfl, rfl, rfl⟩ := sm_inj h
          exact gx_ri (post := gq_p x3 σ_7 τ_7) (v := x3) S hr hlk hw rfl dX9_circle_62 ⟨rfl, rfl, rfl⟩
    · rw [if_pos c_4] at h
      refine lv_iconst (v := (-1)) hx hb dX9_circle_37 (by decide) ?_
      obtain ⟨rfl, rfl, rfl⟩ := sm_inj h
      exact gx_ri (post := gq_p (-1) σ_3 τ_3) (v := (-1)) S hr hlk hw rfl dX9_circle_38 ⟨rfl, rfl, rfl⟩
set_option maxHeartbeats 4000000 in
set_option maxRecDepth 100000 in
theorem h_X9_circle_10 (l : Launch) (S : CallFix P9 m9 C9 cX9_circle 4 s av.toArray gx_G RX9) (hr : meth.sig.returnType = (some .int)) (hlk : meth.locks = false) (hK : gx_K E s) (N : Nat) : ∀ (n : Nat) (σ : gI) (τ : gJ) (x1 : Int32) (x2 : Int32) (x3 : Int32) (r : Int32) (σ1 : gI) (τ1 : gJ), H_X9_circle_10 N n σ τ x1 x2 x3 = some (r, σ1, τ1) → ∀ (H : Heap) (locs : List Loc) (ls : Array Slot), gx_W gx_tb gx_tb.length E s σ τ H locs → lv_has ls 4 [(0, .ref (E.2.2 + 160)), (1, .int x1), (2, .int x2), (3, .int x3)] → W P9 l e9 (gx_rm 4) s m9 av.toArray below meth C9 H locs 0 0 (gq_Qi below av s E r σ1 τ1) (F0 m9 10 ls []) := by
  intro n
  induction n with
  | zero => intro σ τ x1 x2 x3 r σ1 τ1 h; cases h
  | succ n ih =>
    intro σ τ x1 x2 x3 r σ1 τ1 h H locs ls hw hl
    exact k_X9_circle_10 l S hr hlk hK N (H_X9_circle_10 N n) (fun σ τ x1 x2 x3 r σ1 τ1 H locs ls h hw hl => ih σ τ x1 x2 x3 r σ1 τ1 h H locs ls hw hl) σ τ x1 x2 x3 h hw hl
set_option maxHeartbeats 4000000 in
set_option maxRecDepth 100000 in
theorem b_X9_circle_0 (l : Launch) (S : CallFix P9 m9 C9 cX9_circle 4 s av.toArray gx_G RX9) (hr : meth.sig.returnType = (some .int)) (hlk : meth.locks = false) (hK : gx_K E s) (N : Nat) (σ : gI) (τ : gJ) (x1 : Int32) (x2 : Int32) {r : Int32} {σ1 : gI} {τ1 : gJ} (h : B_X9_circle_0 N σ τ x1 x2 = some (r, σ1, τ1)) {H : Heap} {locs : List Loc} {ls : Array Slot} (hw : gx_W gx_tb gx_tb.length E s σ τ H locs) (hl : lv_has ls 4 [(0, .ref (E.2.2 + 160)), (1, .int x1), (2, .int x2)]) : W P9 l e9 (gx_rm 4) s m9 av.toArray below meth C9 H locs 0 0 (gq_Qi below av s E r σ1 τ1) (F0 m9 0 ls []) := by
  have hx := S.1
  have hb := S.2.1
  unfold B_X9_circle_0 at h
  refine lv_aload_n hx hb dX9_circle_0 rfl (lv_at hl 0 rfl) ?_
  refine gx_getr (j := 158) S hK hw t_160 cl_10 1 (by decide) rfl mw_417 rfl dX9_circle_1 ?_
  refine lv_iconst (v := 0) hx hb dX9_circle_4 (by decide) ?_
  refine gx_put S hK gx_ok hw t_158 cl_2 6 (by decide) rfl mw_380 rfl rfl (ty := .int) (v := 0) (by decide +kernel) rfl rfl dX9_circle_5 (fun H locs hw => ?_)
  obtain ⟨σ_1, e_1, h⟩ := nm_some h
  rw [← e_1] at hw
  refine lv_iconst (v := 1) hx hb dX9_circle_8 (by decide) ?_
  refine lv_istore_n (lv' := [(3, .int 1), (0, .ref (E.2.2 + 160)), (1, .int x1), (2, .int x2)]) hx hb dX9_circle_9 rfl hl (by decide) rfl (fun ls hl => ?_)
  exact h_X9_circle_10 l S hr hlk hK N N σ_1 τ x1 x2 1 _ _ _ h _ _ _ hw (lv_sub hl [1, 2, 3, 0] rfl)
set_option maxHeartbeats 4000000 in
set_option maxRecDepth 100000 in
theorem c_X9_circle (l : Launch) {E : gE} (N : Nat) (σ : gI) (τ : gJ) (x1 : Int32) (x2 : Int32) {r : Int32} {σ1 : gI} {τ1 : gJ} (h : B_X9_circle_0 N σ τ x1 x2 = some (r, σ1, τ1)) : gx_Mi l yX9_circle cX9_circle 4 (some .int) 4 gx_tb E σ τ [.ref (E.2.2 + 160), .int x1, .int x2] (gq_p r σ1 τ1) := by
  refine gx_bi (by decide +kernel) (Nat.le_of_ble_eq_true rfl) ?_
  intro P9 e9 s m9 below meth C9 S hr hlk hK hw ls hl
  have hl : lv_has ls 4 [(0, .ref (E.2.2 + 160)), (1, .int x1), (2, .int x2)] := hl
  exact b_X9_circle_0 l S hr hlk hK N σ τ x1 x2 h hw hl
/-! X11_round -/
def B_X11_round_89 (N : Nat) (σ : gI) (τ : gJ) (x2 : Int32) (y0 : Int32) : Option (Int32 × gI × gJ) := nm (up2 σ 158 7 0) fun σ_1 => if x2 = (-1) then (some ((-2), σ_1, τ)) else (if y0 = (-1) then (bd (B_X4_tell_0 N σ_1 τ (-1)) fun _ σ_5 τ_5 => some (x2, σ_5, τ_5)) else (bd (B_X4_tell_0 N σ_1 τ y0.toInt64) fun _ σ_4 τ_4 => some (x2, σ_4, τ_4)))
def B_X11_round_0 (N : Nat) (σ : gI) (τ : gJ) (x1 : Int32) : Option (Int32 × gI × gJ) := bd (B_X8_has_0 N σ τ x1) fun r_1 σ_1 τ_1 => if r_1 = 0 then (some ((-1), σ_1, τ_1)) else (bd (B_X9_thinkOf_0 N σ_1 τ_1 x1 99 9 0 (σ_1 30 8)) fun _ σ_3 τ_3 => bd (B_X9_begin_0 N σ_3 τ_3 (σ_3 30 7)) fun _ σ_4 τ_4 => nm (up2 σ_4 158 7 1) fun σ_5 => bd (B_X9_circle_0 N σ_5 τ_4 x1 300) fun r_6 σ_6 τ_6 => if r_6 = (-1) then (B_X11_round_89 N σ_6 τ_6 r_6 (-1)) else (bd (B_X9_circle_0 N σ_6 τ_6 x1 (300 - r_6)) fun r_8 σ_8 τ_8 => B_X11_round_89 N σ_8 τ_8 r_6 r_8))
set_option maxHeartbeats 4000000 in
set_option maxRecDepth 100000 in
theorem b_X11_round_89 (l : Launch) (S : CallFix P9 m9 C9 cX11_round 4 s av.toArray gx_G RX11) (hr : meth.sig.returnType = (some .int)) (hlk : meth.locks = false) (hK : gx_K E s) (N : Nat) (σ : gI) (τ : gJ) (x2 : Int32) (y0 : Int32) {r : Int32} {σ1 : gI} {τ1 : gJ} (h : B_X11_round_89 N σ τ x2 y0 = some (r, σ1, τ1)) {H : Heap} {locs : List Loc} {ls : Array Slot} (hw : gx_W gx_tb gx_tb.length E s σ τ H locs) (hl : lv_has ls 4 [(0, .ref (E.2.2 + 0)), (2, .int x2)]) : W P9 l e9 (gx_rm 5) s m9 av.toArray below meth C9 H locs 0 0 (gq_Qi below av s E r σ1 τ1) (F0 m9 89 ls [.int y0]) := by
  have hx := S.1
  have hb := S.2.1
  unfold B_X11_round_89 at h
  refine lv_istore_n (lv' := [(3, .int y0), (0, .ref (E.2.2 + 0)), (2, .int x2)]) hx hb dX11_round_89 rfl hl (by decide) rfl (fun ls hl => ?_)
  refine lv_aload_n hx hb dX11_round_90 rfl (lv_at hl 1 rfl) ?_
  refine gx_getr (j := 158) S hK hw t_0 cl_12 14 (by decide) rfl mw_461 rfl dX11_round_91 ?_
  refine lv_iconst (v := 0) hx hb dX11_round_94 (by decide) ?_
  refine gx_put S hK gx_ok hw t_158 cl_2 7 (by decide) rfl mw_382 rfl rfl (ty := .boolean) (v := 0) (by decide +kernel) rfl rfl dX11_round_95 (fun H locs hw => ?_)
  obtain ⟨σ_1, e_1, h⟩ := nm_some h
  rw [← e_1] at hw
  refine lv_iload_n hx hb dX11_round_98 rfl (lv_at hl 2 rfl) ?_
  refine lv_iconst (v := (-1)) hx hb dX11_round_99 (by decide) ?_
  refine lv_icmp_ne (tgt := 106) hx hb dX11_round_100 (by decide) (fun c_2 => ?_) (fun c_2 => ?_)
  · rw [if_neg c_2] at h
    refine lv_aload_n hx hb dX11_round_106 rfl (lv_at hl 1 rfl) ?_
    refine gx_getr (j := 156) S hK hw t_0 cl_12 13 (by decide) rfl mw_460 rfl dX11_round_107 ?_
    refine lv_iload_n hx hb dX11_round_110 rfl (lv_at hl 0 rfl) ?_
    refine lv_iconst (v := (-1)) hx hb dX11_round_111 (by decide) ?_
    refine lv_icmp_ne (tgt := 121) hx hb dX11_round_112 (by decide) (fun c_3 => ?_) (fun c_3 => ?_)
    · rw [if_neg c_3] at h
      refine lv_iload_n hx hb dX11_round_121 rfl (lv_at hl 0 rfl) ?_
      refine lv_i2l (v := y0.toInt64) hx hb dX11_round_122 rfl ?_
      obtain ⟨u_4, σ_4, τ_4, q_4, h⟩ := bd_some h
      refine gx_cVv (As := [.long y0.toInt64]) (rest := []) S hK gx_ok hw (c_X4_tell l (E := E) N σ_1 τ y0.toInt64 q_4) cw_X11_307 t_156 cl_5 ⟨Nat.le_of_ble_eq_true rfl, Nat.le_of_ble_eq_true rfl⟩ rfl hl.1 rfl (Nat.le_of_ble_eq_true rfl) ⟨Nat.le_of_ble_eq_true rfl, Nat.le_of_ble_eq_true rfl⟩ dX11_round_123 (fun σ9 τ9 H locs hp hw => ?_)
      obtain ⟨rfl, rfl⟩ := hp
      refine lv_iload_n hx hb dX11_round_126 rfl (lv_at hl 2 rfl) ?_
      obtain ⟨rfl, rfl, rfl⟩ := sm_inj h
      exact gx_ri (post := gq_p x2 σ_4 τ_4) (v := x2) S hr hlk hw rfl dX11_round_127 ⟨rfl, rfl, rfl⟩
    · rw [if_pos c_3] at h
      refine lv_ldc2 (v := (-1)) hx hb S.2.2.2.1 (S.2.2.2.2 _ mw_1133) dX11_round_115 ?_
      refine lv_goto (tgt := 123) hx hb dX11_round_118 (by decide) ?_
      obtain ⟨u_5, σ_5, τ_5, q_5, h⟩ := bd_some h
      refine gx_cVv (As := [.long (-1)]) (rest := []) S hK gx_ok hw (c_X4_tell l (E := E) N σ_1 τ (-1) q_5) cw_X11_307 t_156 cl_5 ⟨Nat.le_of_ble_eq_true rfl, Nat.le_of_ble_eq_true rfl⟩ rfl hl.1 rfl (Nat.le_of_ble_eq_true rfl) ⟨Nat.le_of_ble_eq_true rfl, Nat.le_of_ble_eq_true rfl⟩ dX11_round_123 (fun σ9 τ9 H locs hp hw => ?_)
      obtain ⟨rfl, rfl⟩ := hp
      refine lv_iload_n hx hb dX11_round_126 rfl (lv_at hl 2 rfl) ?_
      obtain ⟨rfl, rfl, rfl⟩ := sm_inj h
      exact gx_ri (post := gq_p x2 σ_5 τ_5) (v := x2) S hr hlk hw rfl dX11_round_127 ⟨rfl, rfl, rfl⟩
  · rw [if_pos c_2] at h
    refine lv_bipush (v := (-2)) hx hb dX11_round_103 (by decide) ?_
    obtain ⟨rfl, rfl, rfl⟩ := sm_inj h
    exact gx_ri (post := gq_p (-2) σ_1 τ) (v := (-2)) S hr hlk hw rfl dX11_round_105 ⟨rfl, rfl, rfl⟩
set_option maxHeartbeats 4000000 in
set_option maxRecDepth 100000 in
theorem b_X11_round_0 (l : Launch) (S : CallFix P9 m9 C9 cX11_round 4 s av.toArray gx_G RX11) (hr : meth.sig.returnType = (some .int)) (hlk : meth.locks = false) (hK : gx_K E s) (N : Nat) (σ : gI) (τ : gJ) (x1 : Int32) {r : Int32} {σ1 : gI} {τ1 : gJ} (h : B_X11_round_0 N σ τ x1 = some (r, σ1, τ1)) {H : Heap} {locs : List Loc} {ls : Array Slot} (hw : gx_W gx_tb gx_tb.length E s σ τ H locs) (hl : lv_has ls 4 [(0, .ref (E.2.2 + 0)), (1, .int x1)]) : W P9 l e9 (gx_rm 5) s m9 av.toArray below meth C9 H locs 0 0 (gq_Qi below av s E r σ1 τ1) (F0 m9 0 ls []) := by
  have hx := S.1
  have hb := S.2.1
  unfold B_X11_round_0 at h
  refine lv_aload_n hx hb dX11_round_0 rfl (lv_at hl 0 rfl) ?_
  refine gx_getr (j := 3) S hK hw t_0 cl_12 1 (by decide) rfl mw_448 rfl dX11_round_1 ?_
  refine lv_iload_n hx hb dX11_round_4 rfl (lv_at hl 1 rfl) ?_
  obtain ⟨r_1, σ_1, τ_1, q_1, h⟩ := bd_some h
  refine gx_cVi (As := [.int x1]) (rest := []) S hK gx_ok hw (c_X8_has l (E := E) N σ τ x1 q_1) cw_X11_137 t_3 cl_9 ⟨Nat.le_of_ble_eq_true rfl, Nat.le_of_ble_eq_true rfl⟩ rfl hl.1 rfl (Nat.le_of_ble_eq_true rfl) ⟨Nat.le_of_ble_eq_true rfl, Nat.le_of_ble_eq_true rfl⟩ dX11_round_5 (fun r9 σ9 τ9 H locs hp hw => ?_)
  obtain ⟨rfl, rfl, rfl⟩ := hp
  refine lv_if_ne (tgt := 13) hx hb dX11_round_8 (by decide) (fun c_2 => ?_) (fun c_2 => ?_)
  · rw [if_neg c_2] at h
    refine lv_aload_n hx hb dX11_round_13 rfl (lv_at hl 0 rfl) ?_
    refine gx_getr (j := 160) S hK hw t_0 cl_12 15 (by decide) rfl mw_462 rfl dX11_round_14 ?_
    refine lv_iload_n hx hb dX11_round_17 rfl (lv_at hl 1 rfl) ?_
    refine lv_bipush (v := 99) hx hb dX11_round_18 (by decide) ?_
    refine lv_bipush (v := 9) hx hb dX11_round_20 (by decide) ?_
    refine lv_iconst (v := 0) hx hb dX11_round_22 (by decide) ?_
    refine lv_aload_n hx hb dX11_round_23 rfl (lv_at hl 0 rfl) ?_
    refine gx_getr (j := 30) S hK hw t_0 cl_12 7 (by decide) rfl mw_454 rfl dX11_round_24 ?_
    refine gx_get S hK hw t_30 cl_7 8 (by decide) rfl mw_280 rfl dX11_round_27 ?_
    obtain ⟨u_3, σ_3, τ_3, q_3, h⟩ := bd_some h
    refine gx_cVv (As := [.int x1, .int 99, .int 9, .int 0, .int (σ_1 30 8)]) (rest := []) S hK gx_ok hw (c_X9_thinkOf l (E := E) N σ_1 τ_1 x1 99 9 0 (σ_1 30 8) q_3) cw_X11_327 t_160 cl_10 ⟨Nat.le_of_ble_eq_true rfl, Nat.le_of_ble_eq_true rfl⟩ rfl hl.1 rfl (Nat.le_of_ble_eq_true rfl) ⟨Nat.le_of_ble_eq_true rfl, Nat.le_of_ble_eq_true rfl⟩ dX11_round_30 (fun σ9 τ9 H locs hp hw => ?_)
    obtain ⟨rfl, rfl⟩ := hp
    refine lv_aload_n hx hb dX11_round_33 rfl (lv_at hl 0 rfl) ?_
    refine gx_getr (j := 160) S hK hw t_0 cl_12 15 (by decide) rfl mw_462 rfl dX11_round_34 ?_
    refine lv_aload_n hx hb dX11_round_37 rfl (lv_at hl 0 rfl) ?_
    refine gx_getr (j := 30) S hK hw t_0 cl_12 7 (by decide) rfl mw_454 rfl dX11_round_38 ?_
    refine gx_get S hK hw t_30 cl_7 7 (by decide) rfl mw_276 rfl dX11_round_41 ?_
    obtain ⟨u_4, σ_4, τ_4, q_4, h⟩ := bd_some h
    refine gx_cVv (As := [.int (σ_3 30 7)]) (rest := []) S hK gx_ok hw (c_X9_begin l (E := E) N σ_3 τ_3 (σ_3 30 7) q_4) cw_X11_331 t_160 cl_10 ⟨Nat.le_of_ble_eq_true rfl, Nat.le_of_ble_eq_true rfl⟩ rfl hl.1 rfl (Nat.le_of_ble_eq_true rfl) ⟨Nat.le_of_ble_eq_true rfl, Nat.le_of_ble_eq_true rfl⟩ dX11_round_44 (fun σ9 τ9 H locs hp hw => ?_)
    obtain ⟨rfl, rfl⟩ := hp
    refine lv_aload_n hx hb dX11_round_47 rfl (lv_at hl 0 rfl) ?_
    refine gx_getr (j := 158) S hK hw t_0 cl_12 14 (by decide) rfl mw_461 rfl dX11_round_48 ?_
    refine lv_iconst (v := 1) hx hb dX11_round_51 (by decide) ?_
    refine gx_put S hK gx_ok hw t_158 cl_2 7 (by decide) rfl mw_382 rfl rfl (ty := .boolean) (v := 1) (by decide +kernel) rfl rfl dX11_round_52 (fun H locs hw => ?_)
    obtain ⟨σ_5, e_5, h⟩ := nm_some h
    rw [← e_5] at hw
    refine lv_aload_n hx hb dX11_round_55 rfl (lv_at hl 0 rfl) ?_
    refine gx_getr (j := 160) S hK hw t_0 cl_12 15 (by decide) rfl mw_462 rfl dX11_round_56 ?_
    refine lv_iload_n hx hb dX11_round_59 rfl (lv_at hl 1 rfl) ?_
    refine lv_sipush (v := 300) hx hb dX11_round_60 (by decide) ?_
    obtain ⟨r_6, σ_6, τ_6, q_6, h⟩ := bd_some h
    refine gx_cVi (As := [.int x1, .int 300]) (rest := []) S hK gx_ok hw (c_X9_circle l (E := E) N σ_5 τ_4 x1 300 q_6) cw_X11_338 t_160 cl_10 ⟨Nat.le_of_ble_eq_true rfl, Nat.le_of_ble_eq_true rfl⟩ rfl hl.1 rfl (Nat.le_of_ble_eq_true rfl) ⟨Nat.le_of_ble_eq_true rfl, Nat.le_of_ble_eq_true rfl⟩ dX11_round_63 (fun r9 σ9 τ9 H locs hp hw => ?_)
    obtain ⟨rfl, rfl, rfl⟩ := hp
    refine lv_istore_n (lv' := [(2, .int r_6), (0, .ref (E.2.2 + 0)), (1, .int x1)]) hx hb dX11_round_66 rfl hl (by decide) rfl (fun ls hl => ?_)
    refine lv_iload_n hx hb dX11_round_67 rfl (lv_at hl 0 rfl) ?_
    refine lv_iconst (v := (-1)) hx hb dX11_round_68 (by decide) ?_
    refine lv_icmp_ne (tgt := 76) hx hb dX11_round_69 (by decide) (fun c_7 => ?_) (fun c_7 => ?_)
    · rw [if_neg c_7] at h
      refine lv_aload_n hx hb dX11_round_76 rfl (lv_at hl 1 rfl) ?_
      refine gx_getr (j := 160) S hK hw t_0 cl_12 15 (by decide) rfl mw_462 rfl dX11_round_77 ?_
      refine lv_iload_n hx hb dX11_round_80 rfl (lv_at hl 2 rfl) ?_
      refine lv_sipush (v := 300) hx hb dX11_round_81 (by decide) ?_
      refine lv_iload_n hx hb dX11_round_84 rfl (lv_at hl 0 rfl) ?_
      refine lv_isub hx hb dX11_round_85 ?_
      obtain ⟨r_8, σ_8, τ_8, q_8, h⟩ := bd_some h
      refine gx_cVi (As := [.int x1, .int (300 - r_6)]) (rest := []) S hK gx_ok hw (c_X9_circle l (E := E) N σ_6 τ_6 x1 (300 - r_6) q_8) cw_X11_338 t_160 cl_10 ⟨Nat.le_of_ble_eq_true rfl, Nat.le_of_ble_eq_true rfl⟩ rfl hl.1 rfl (Nat.le_of_ble_eq_true rfl) ⟨Nat.le_of_ble_eq_true rfl, Nat.le_of_ble_eq_true rfl⟩ dX11_round_86 (fun r9 σ9 τ9 H locs hp hw => ?_)
      obtain ⟨rfl, rfl, rfl⟩ := hp
      exact b_X11_round_89 l S hr hlk hK N σ_8 τ_8 r_6 r_8 h hw (lv_sub hl [1, 0] rfl)
    · rw [if_pos c_7] at h
      refine lv_iconst (v := (-1)) hx hb dX11_round_72 (by decide) ?_
      refine lv_goto (tgt := 89) hx hb dX11_round_73 (by decide) ?_
      exact b_X11_round_89 l S hr hlk hK N σ_6 τ_6 r_6 (-1) h hw (lv_sub hl [1, 0] rfl)
  · rw [if_pos c_2] at h
    refine lv_iconst (v := (-1)) hx hb dX11_round_11 (by decide) ?_
    obtain ⟨rfl, rfl, rfl⟩ := sm_inj h
    exact gx_ri (post := gq_p (-1) σ_1 τ_1) (v := (-1)) S hr hlk hw rfl dX11_round_12 ⟨rfl, rfl, rfl⟩
set_option maxHeartbeats 4000000 in
set_option maxRecDepth 100000 in
theorem c_X11_round (l : Launch) {E : gE} (N : Nat) (σ : gI) (τ : gJ) (x1 : Int32) {r : Int32} {σ1 : gI} {τ1 : gJ} (h : B_X11_round_0 N σ τ x1 = some (r, σ1, τ1)) : gx_Mi l yX11_round cX11_round 4 (some .int) 5 gx_tb E σ τ [.ref (E.2.2 + 0), .int x1] (gq_p r σ1 τ1) := by
  refine gx_bi (by decide +kernel) (Nat.le_of_ble_eq_true rfl) ?_
  intro P9 e9 s m9 below meth C9 S hr hlk hK hw ls hl
  have hl : lv_has ls 4 [(0, .ref (E.2.2 + 0)), (1, .int x1)] := hl
  exact b_X11_round_0 l S hr hlk hK N σ τ x1 h hw hl
/-! X5_clear -/
def B_X5_clear_0 (N : Nat) (σ : gI) (τ : gJ) : Option (Unit × gI × gJ) := nm (up2 σ 21 3 0) fun σ_1 => nm (up2 σ_1 21 4 0) fun σ_2 => nm (up2 σ_2 21 5 0) fun σ_3 => nm (up2 σ_3 21 6 0) fun σ_4 => nm (up2 σ_4 21 7 0) fun σ_5 => nm (up2 σ_5 21 8 1) fun σ_6 => nm (up2 σ_6 21 9 0) fun σ_7 => nm (up2 σ_7 21 10 0) fun σ_8 => some ((), σ_8, τ)
set_option maxHeartbeats 4000000 in
set_option maxRecDepth 100000 in
theorem b_X5_clear_0 (l : Launch) (S : CallFix P9 m9 C9 cX5_clear 1 s av.toArray gx_G RX5) (hr : meth.sig.returnType = none) (hlk : meth.locks = false) (hK : gx_K E s) (N : Nat) (σ : gI) (τ : gJ) {r : Unit} {σ1 : gI} {τ1 : gJ} (h : B_X5_clear_0 N σ τ = some (r, σ1, τ1)) {H : Heap} {locs : List Loc} {ls : Array Slot} (hw : gx_W gx_tb gx_tb.length E s σ τ H locs) (hl : lv_has ls 1 [(0, .ref (E.2.2 + 21))]) : W P9 l e9 (gx_rm 0) s m9 av.toArray below meth C9 H locs 0 0 (gq_Qv below av s E σ1 τ1) (F0 m9 0 ls []) := by
  have hx := S.1
  have hb := S.2.1
  unfold B_X5_clear_0 at h
  refine lv_aload_n hx hb dX5_clear_0 rfl (lv_at hl 0 rfl) ?_
  refine lv_iconst (v := 0) hx hb dX5_clear_1 (by decide) ?_
  refine gx_put S hK gx_ok hw t_21 cl_6 3 (by decide) rfl mw_203 rfl rfl (ty := .int) (v := 0) (by decide +kernel) rfl rfl dX5_clear_2 (fun H locs hw => ?_)
  obtain ⟨σ_1, e_1, h⟩ := nm_some h
  rw [← e_1] at hw
  refine lv_aload_n hx hb dX5_clear_5 rfl (lv_at hl 0 rfl) ?_
  refine lv_iconst (v := 0) hx hb dX5_clear_6 (by decide) ?_
  refine gx_put S hK gx_ok hw t_21 cl_6 4 (by decide) rfl mw_204 rfl rfl (ty := .int) (v := 0) (by decide +kernel) rfl rfl dX5_clear_7 (fun H locs hw => ?_)
  obtain ⟨σ_2, e_2, h⟩ := nm_some h
  rw [← e_2] at hw
  refine lv_aload_n hx hb dX5_clear_10 rfl (lv_at hl 0 rfl) ?_
  refine lv_iconst (v := 0) hx hb dX5_clear_11 (by decide) ?_
  refine gx_put S hK gx_ok hw t_21 cl_6 5 (by decide) rfl mw_205 rfl rfl (ty := .int) (v := 0) (by decide +kernel) rfl rfl dX5_clear_12 (fun H locs hw => ?_)
  obtain ⟨σ_3, e_3, h⟩ := nm_some h
  rw [← e_3] at hw
  refine lv_aload_n hx hb dX5_clear_15 rfl (lv_at hl 0 rfl) ?_
  refine lv_iconst (v := 0) hx hb dX5_clear_16 (by decide) ?_
  refine gx_put S hK gx_ok hw t_21 cl_6 6 (by decide) rfl mw_206 rfl rfl (ty := .int) (v := 0) (by decide +kernel) rfl rfl dX5_clear_17 (fun H locs hw => ?_)
  obtain ⟨σ_4, e_4, h⟩ := nm_some h
  rw [← e_4] at hw
  refine lv_aload_n hx hb dX5_clear_20 rfl (lv_at hl 0 rfl) ?_
  refine lv_iconst (v := 0) hx hb dX5_clear_21 (by decide) ?_
  refine gx_put S hK gx_ok hw t_21 cl_6 7 (by decide) rfl mw_207 rfl rfl (ty := .int) (v := 0) (by decide +kernel) rfl rfl dX5_clear_22 (fun H locs hw => ?_)
  obtain ⟨σ_5, e_5, h⟩ := nm_some h
  rw [← e_5] at hw
  refine lv_aload_n hx hb dX5_clear_25 rfl (lv_at hl 0 rfl) ?_
  refine lv_iconst (v := 1) hx hb dX5_clear_26 (by decide) ?_
  refine gx_put S hK gx_ok hw t_21 cl_6 8 (by decide) rfl mw_208 rfl rfl (ty := .boolean) (v := 1) (by decide +kernel) rfl rfl dX5_clear_27 (fun H locs hw => ?_)
  obtain ⟨σ_6, e_6, h⟩ := nm_some h
  rw [← e_6] at hw
  refine lv_aload_n hx hb dX5_clear_30 rfl (lv_at hl 0 rfl) ?_
  refine lv_iconst (v := 0) hx hb dX5_clear_31 (by decide) ?_
  refine gx_put S hK gx_ok hw t_21 cl_6 9 (by decide) rfl mw_209 rfl rfl (ty := .boolean) (v := 0) (by decide +kernel) rfl rfl dX5_clear_32 (fun H locs hw => ?_)
  obtain ⟨σ_7, e_7, h⟩ := nm_some h
  rw [← e_7] at hw
  refine lv_aload_n hx hb dX5_clear_35 rfl (lv_at hl 0 rfl) ?_
  refine lv_iconst (v := 0) hx hb dX5_clear_36 (by decide) ?_
  refine gx_put S hK gx_ok hw t_21 cl_6 10 (by decide) rfl mw_212 rfl rfl (ty := .boolean) (v := 0) (by decide +kernel) rfl rfl dX5_clear_37 (fun H locs hw => ?_)
  obtain ⟨σ_8, e_8, h⟩ := nm_some h
  rw [← e_8] at hw
  obtain ⟨-, rfl, rfl⟩ := sm_inj h
  exact gx_rv (post := gq_v σ_8 τ) S hr hlk hw dX5_clear_40 ⟨rfl, rfl⟩
set_option maxHeartbeats 4000000 in
set_option maxRecDepth 100000 in
theorem c_X5_clear (l : Launch) {E : gE} (N : Nat) (σ : gI) (τ : gJ) {r : Unit} {σ1 : gI} {τ1 : gJ} (h : B_X5_clear_0 N σ τ = some (r, σ1, τ1)) : gx_Mv l yX5_clear cX5_clear 1 none 0 gx_tb E σ τ [.ref (E.2.2 + 21)] (gq_v σ1 τ1) := by
  refine gx_bv (by decide +kernel) (Nat.le_of_ble_eq_true rfl) ?_
  intro P9 e9 s m9 below meth C9 S hr hlk hK hw ls hl
  have hl : lv_has ls 1 [(0, .ref (E.2.2 + 21))] := hl
  exact b_X5_clear_0 l S hr hlk hK N σ τ h hw hl
/-! X5_addStep -/
def B_X5_addStep_0 (N : Nat) (σ : gI) (τ : gJ) (x1 : Int32) : Option (Unit × gI × gJ) := if σ 21 3 < 0 then (some ((), σ, τ)) else (if 40 ≤ σ 21 3 then (some ((), σ, τ)) else (ck (σ 21 3) 40 fun j_3 => nm (up2 σ 22 j_3 x1) fun σ_4 => nm (up2 σ_4 21 3 ((σ_4 21 3) + 1)) fun σ_5 => some ((), σ_5, τ)))
set_option maxHeartbeats 4000000 in
set_option maxRecDepth 100000 in
theorem b_X5_addStep_0 (l : Launch) (S : CallFix P9 m9 C9 cX5_addStep 2 s av.toArray gx_G RX5) (hr : meth.sig.returnType = none) (hlk : meth.locks = false) (hK : gx_K E s) (N : Nat) (σ : gI) (τ : gJ) (x1 : Int32) {r : Unit} {σ1 : gI} {τ1 : gJ} (h : B_X5_addStep_0 N σ τ x1 = some (r, σ1, τ1)) {H : Heap} {locs : List Loc} {ls : Array Slot} (hw : gx_W gx_tb gx_tb.length E s σ τ H locs) (hl : lv_has ls 2 [(0, .ref (E.2.2 + 21)), (1, .int x1)]) : W P9 l e9 (gx_rm 0) s m9 av.toArray below meth C9 H locs 0 0 (gq_Qv below av s E σ1 τ1) (F0 m9 0 ls []) := by
  have hx := S.1
  have hb := S.2.1
  unfold B_X5_addStep_0 at h
  refine lv_aload_n hx hb dX5_addStep_0 rfl (lv_at hl 0 rfl) ?_
  refine gx_get S hK hw t_21 cl_6 3 (by decide) rfl mw_203 rfl dX5_addStep_1 ?_
  refine lv_if_lt (tgt := 36) hx hb dX5_addStep_4 (by decide) (fun c_1 => ?_) (fun c_1 => ?_)
  · rw [if_pos c_1] at h
    obtain ⟨-, rfl, rfl⟩ := sm_inj h
    exact gx_rv (post := gq_v σ τ) S hr hlk hw dX5_addStep_36 ⟨rfl, rfl⟩
  · rw [if_neg c_1] at h
    refine lv_aload_n hx hb dX5_addStep_7 rfl (lv_at hl 0 rfl) ?_
    refine gx_get S hK hw t_21 cl_6 3 (by decide) rfl mw_203 rfl dX5_addStep_8 ?_
    refine lv_bipush (v := 40) hx hb dX5_addStep_11 (by decide) ?_
    refine lv_icmp_ge (tgt := 36) hx hb dX5_addStep_13 (by decide) (fun c_2 => ?_) (fun c_2 => ?_)
    · rw [if_pos c_2] at h
      obtain ⟨-, rfl, rfl⟩ := sm_inj h
      exact gx_rv (post := gq_v σ τ) S hr hlk hw dX5_addStep_36 ⟨rfl, rfl⟩
    · rw [if_neg c_2] at h
      refine lv_aload_n hx hb dX5_addStep_16 rfl (lv_at hl 0 rfl) ?_
      refine gx_getr (j := 22) S hK hw t_21 cl_6 0 (by decide) rfl mw_200 rfl dX5_addStep_17 ?_
      refine lv_aload_n hx hb dX5_addStep_20 rfl (lv_at hl 0 rfl) ?_
      refine gx_get S hK hw t_21 cl_6 3 (by decide) rfl mw_203 rfl dX5_addStep_21 ?_
      refine lv_iload_n hx hb dX5_addStep_24 rfl (lv_at hl 1 rfl) ?_
      obtain ⟨j_3, hj_3, hi_3, h⟩ := ck_some h
      refine gx_iast S hK gx_ok hw t_22 j_3 hj_3 hi_3 dX5_addStep_25 (fun H locs hw => ?_)
      obtain ⟨σ_4, e_4, h⟩ := nm_some h
      rw [← e_4] at hw
      refine lv_aload_n hx hb dX5_addStep_26 rfl (lv_at hl 0 rfl) ?_
      refine lv_dup hx hb dX5_addStep_27 rfl ?_
      refine gx_get S hK hw t_21 cl_6 3 (by decide) rfl mw_203 rfl dX5_addStep_28 ?_
      refine lv_iconst (v := 1) hx hb dX5_addStep_31 (by decide) ?_
      refine lv_iadd hx hb dX5_addStep_32 ?_
      refine gx_put S hK gx_ok hw t_21 cl_6 3 (by decide) rfl mw_203 rfl rfl (ty := .int) (v := (σ_4 21 3) + 1) (by decide +kernel) rfl rfl dX5_addStep_33 (fun H locs hw => ?_)
      obtain ⟨σ_5, e_5, h⟩ := nm_some h
      rw [← e_5] at hw
      obtain ⟨-, rfl, rfl⟩ := sm_inj h
      exact gx_rv (post := gq_v σ_5 τ) S hr hlk hw dX5_addStep_36 ⟨rfl, rfl⟩
set_option maxHeartbeats 4000000 in
set_option maxRecDepth 100000 in
theorem c_X5_addStep (l : Launch) {E : gE} (N : Nat) (σ : gI) (τ : gJ) (x1 : Int32) {r : Unit} {σ1 : gI} {τ1 : gJ} (h : B_X5_addStep_0 N σ τ x1 = some (r, σ1, τ1)) : gx_Mv l yX5_addStep cX5_addStep 2 none 0 gx_tb E σ τ [.ref (E.2.2 + 21), .int x1] (gq_v σ1 τ1) := by
  refine gx_bv (by decide +kernel) (Nat.le_of_ble_eq_true rfl) ?_
  intro P9 e9 s m9 below meth C9 S hr hlk hK hw ls hl
  have hl : lv_has ls 2 [(0, .ref (E.2.2 + 21)), (1, .int x1)] := hl
  exact b_X5_addStep_0 l S hr hlk hK N σ τ x1 h hw hl
/-! X5_addFact -/
def B_X5_addFact_34 (N : Nat) (σ : gI) (τ : gJ) (x1 : Int32) (y0 : Int32) (y1 : Int32) : Option (Unit × gI × gJ) := cb (y1 ||| y0) <| nm (up2 σ 21 10 (y1 ||| y0)) fun σ_2 => bd (B_X5_addStep_0 N σ_2 τ x1) fun _ σ_3 τ_3 => nm (up2 σ_3 21 7 3) fun σ_4 => nm (up2 σ_4 21 8 0) fun σ_5 => some ((), σ_5, τ_3)
def B_X5_addFact_0 (N : Nat) (σ : gI) (τ : gJ) (x1 : Int32) : Option (Unit × gI × gJ) := if x1 = 0 then (cb ((σ 21 9) ||| 1) <| nm (up2 σ 21 9 ((σ 21 9) ||| 1)) fun σ_6 => if x1 = 6 then (B_X5_addFact_34 N σ_6 τ x1 1 (σ_6 21 10)) else (B_X5_addFact_34 N σ_6 τ x1 0 (σ_6 21 10))) else (cb ((σ 21 9) ||| 0) <| nm (up2 σ 21 9 ((σ 21 9) ||| 0)) fun σ_3 => if x1 = 6 then (B_X5_addFact_34 N σ_3 τ x1 1 (σ_3 21 10)) else (B_X5_addFact_34 N σ_3 τ x1 0 (σ_3 21 10)))
set_option maxHeartbeats 4000000 in
set_option maxRecDepth 100000 in
theorem b_X5_addFact_34 (l : Launch) (S : CallFix P9 m9 C9 cX5_addFact 2 s av.toArray gx_G RX5) (hr : meth.sig.returnType = none) (hlk : meth.locks = false) (hK : gx_K E s) (N : Nat) (σ : gI) (τ : gJ) (x1 : Int32) (y0 : Int32) (y1 : Int32) {r : Unit} {σ1 : gI} {τ1 : gJ} (h : B_X5_addFact_34 N σ τ x1 y0 y1 = some (r, σ1, τ1)) {H : Heap} {locs : List Loc} {ls : Array Slot} (hw : gx_W gx_tb gx_tb.length E s σ τ H locs) (hl : lv_has ls 2 [(0, .ref (E.2.2 + 21)), (1, .int x1)]) : W P9 l e9 (gx_rm 1) s m9 av.toArray below meth C9 H locs 0 0 (gq_Qv below av s E σ1 τ1) (F0 m9 34 ls [.int y0, .int y1, .ref (E.2.2 + 21)]) := by
  have hx := S.1
  have hb := S.2.1
  unfold B_X5_addFact_34 at h
  refine lv_ior hx hb dX5_addFact_34 ?_
  obtain ⟨hq_1, h⟩ := cb_some h
  refine gx_put S hK gx_ok hw t_21 cl_6 10 (by decide) rfl mw_212 rfl rfl (ty := .boolean) (v := y1 ||| y0) (by decide +kernel) (cb_nar hq_1) (cb_fit hq_1) dX5_addFact_35 (fun H locs hw => ?_)
  obtain ⟨σ_2, e_2, h⟩ := nm_some h
  rw [← e_2] at hw
  refine lv_aload_n hx hb dX5_addFact_38 rfl (lv_at hl 0 rfl) ?_
  refine lv_iload_n hx hb dX5_addFact_39 rfl (lv_at hl 1 rfl) ?_
  obtain ⟨u_3, σ_3, τ_3, q_3, h⟩ := bd_some h
  refine gx_cVv (As := [.int x1]) (rest := []) S hK gx_ok hw (c_X5_addStep l (E := E) N σ_2 τ x1 q_3) cw_X5_84 t_21 cl_6 ⟨Nat.le_of_ble_eq_true rfl, Nat.le_of_ble_eq_true rfl⟩ rfl hl.1 rfl (Nat.le_of_ble_eq_true rfl) ⟨Nat.le_of_ble_eq_true rfl, Nat.le_of_ble_eq_true rfl⟩ dX5_addFact_40 (fun σ9 τ9 H locs hp hw => ?_)
  obtain ⟨rfl, rfl⟩ := hp
  refine lv_aload_n hx hb dX5_addFact_43 rfl (lv_at hl 0 rfl) ?_
  refine lv_iconst (v := 3) hx hb dX5_addFact_44 (by decide) ?_
  refine gx_put S hK gx_ok hw t_21 cl_6 7 (by decide) rfl mw_207 rfl rfl (ty := .int) (v := 3) (by decide +kernel) rfl rfl dX5_addFact_45 (fun H locs hw => ?_)
  obtain ⟨σ_4, e_4, h⟩ := nm_some h
  rw [← e_4] at hw
  refine lv_aload_n hx hb dX5_addFact_48 rfl (lv_at hl 0 rfl) ?_
  refine lv_iconst (v := 0) hx hb dX5_addFact_49 (by decide) ?_
  refine gx_put S hK gx_ok hw t_21 cl_6 8 (by decide) rfl mw_208 rfl rfl (ty := .boolean) (v := 0) (by decide +kernel) rfl rfl dX5_addFact_50 (fun H locs hw => ?_)
  obtain ⟨σ_5, e_5, h⟩ := nm_some h
  rw [← e_5] at hw
  obtain ⟨-, rfl, rfl⟩ := sm_inj h
  exact gx_rv (post := gq_v σ_5 τ_3) S hr hlk hw dX5_addFact_53 ⟨rfl, rfl⟩
set_option maxHeartbeats 4000000 in
set_option maxRecDepth 100000 in
theorem b_X5_addFact_0 (l : Launch) (S : CallFix P9 m9 C9 cX5_addFact 2 s av.toArray gx_G RX5) (hr : meth.sig.returnType = none) (hlk : meth.locks = false) (hK : gx_K E s) (N : Nat) (σ : gI) (τ : gJ) (x1 : Int32) {r : Unit} {σ1 : gI} {τ1 : gJ} (h : B_X5_addFact_0 N σ τ x1 = some (r, σ1, τ1)) {H : Heap} {locs : List Loc} {ls : Array Slot} (hw : gx_W gx_tb gx_tb.length E s σ τ H locs) (hl : lv_has ls 2 [(0, .ref (E.2.2 + 21)), (1, .int x1)]) : W P9 l e9 (gx_rm 1) s m9 av.toArray below meth C9 H locs 0 0 (gq_Qv below av s E σ1 τ1) (F0 m9 0 ls []) := by
  have hx := S.1
  have hb := S.2.1
  unfold B_X5_addFact_0 at h
  refine lv_aload_n hx hb dX5_addFact_0 rfl (lv_at hl 0 rfl) ?_
  refine lv_dup hx hb dX5_addFact_1 rfl ?_
  refine gx_get S hK hw t_21 cl_6 9 (by decide) rfl mw_209 rfl dX5_addFact_2 ?_
  refine lv_iload_n hx hb dX5_addFact_5 rfl (lv_at hl 1 rfl) ?_
  refine lv_if_ne (tgt := 13) hx hb dX5_addFact_6 (by decide) (fun c_1 => ?_) (fun c_1 => ?_)
  · rw [if_neg c_1] at h
    refine lv_iconst (v := 0) hx hb dX5_addFact_13 (by decide) ?_
    refine lv_ior hx hb dX5_addFact_14 ?_
    obtain ⟨hq_2, h⟩ := cb_some h
    refine gx_put S hK gx_ok hw t_21 cl_6 9 (by decide) rfl mw_209 rfl rfl (ty := .boolean) (v := (σ 21 9) ||| 0) (by decide +kernel) (cb_nar hq_2) (cb_fit hq_2) dX5_addFact_15 (fun H locs hw => ?_)
    obtain ⟨σ_3, e_3, h⟩ := nm_some h
    rw [← e_3] at hw
    refine lv_aload_n hx hb dX5_addFact_18 rfl (lv_at hl 0 rfl) ?_
    refine lv_dup hx hb dX5_addFact_19 rfl ?_
    refine gx_get S hK hw t_21 cl_6 10 (by decide) rfl mw_212 rfl dX5_addFact_20 ?_
    refine lv_iload_n hx hb dX5_addFact_23 rfl (lv_at hl 1 rfl) ?_
    refine lv_bipush (v := 6) hx hb dX5_addFact_24 (by decide) ?_
    refine lv_icmp_ne (tgt := 33) hx hb dX5_addFact_26 (by decide) (fun c_4 => ?_) (fun c_4 => ?_)
    · rw [if_neg c_4] at h
      refine lv_iconst (v := 0) hx hb dX5_addFact_33 (by decide) ?_
      exact b_X5_addFact_34 l S hr hlk hK N σ_3 τ x1 0 (σ_3 21 10) h hw (lv_sub hl [0, 1] rfl)
    · rw [if_pos c_4] at h
      refine lv_iconst (v := 1) hx hb dX5_addFact_29 (by decide) ?_
      refine lv_goto (tgt := 34) hx hb dX5_addFact_30 (by decide) ?_
      exact b_X5_addFact_34 l S hr hlk hK N σ_3 τ x1 1 (σ_3 21 10) h hw (lv_sub hl [0, 1] rfl)
  · rw [if_pos c_1] at h
    refine lv_iconst (v := 1) hx hb dX5_addFact_9 (by decide) ?_
    refine lv_goto (tgt := 14) hx hb dX5_addFact_10 (by decide) ?_
    refine lv_ior hx hb dX5_addFact_14 ?_
    obtain ⟨hq_5, h⟩ := cb_some h
    refine gx_put S hK gx_ok hw t_21 cl_6 9 (by decide) rfl mw_209 rfl rfl (ty := .boolean) (v := (σ 21 9) ||| 1) (by decide +kernel) (cb_nar hq_5) (cb_fit hq_5) dX5_addFact_15 (fun H locs hw => ?_)
    obtain ⟨σ_6, e_6, h⟩ := nm_some h
    rw [← e_6] at hw
    refine lv_aload_n hx hb dX5_addFact_18 rfl (lv_at hl 0 rfl) ?_
    refine lv_dup hx hb dX5_addFact_19 rfl ?_
    refine gx_get S hK hw t_21 cl_6 10 (by decide) rfl mw_212 rfl dX5_addFact_20 ?_
    refine lv_iload_n hx hb dX5_addFact_23 rfl (lv_at hl 1 rfl) ?_
    refine lv_bipush (v := 6) hx hb dX5_addFact_24 (by decide) ?_
    refine lv_icmp_ne (tgt := 33) hx hb dX5_addFact_26 (by decide) (fun c_7 => ?_) (fun c_7 => ?_)
    · rw [if_neg c_7] at h
      refine lv_iconst (v := 0) hx hb dX5_addFact_33 (by decide) ?_
      exact b_X5_addFact_34 l S hr hlk hK N σ_6 τ x1 0 (σ_6 21 10) h hw (lv_sub hl [0, 1] rfl)
    · rw [if_pos c_7] at h
      refine lv_iconst (v := 1) hx hb dX5_addFact_29 (by decide) ?_
      refine lv_goto (tgt := 34) hx hb dX5_addFact_30 (by decide) ?_
      exact b_X5_addFact_34 l S hr hlk hK N σ_6 τ x1 1 (σ_6 21 10) h hw (lv_sub hl [0, 1] rfl)
set_option maxHeartbeats 4000000 in
set_option maxRecDepth 100000 in
theorem c_X5_addFact (l : Launch) {E : gE} (N : Nat) (σ : gI) (τ : gJ) (x1 : Int32) {r : Unit} {σ1 : gI} {τ1 : gJ} (h : B_X5_addFact_0 N σ τ x1 = some (r, σ1, τ1)) : gx_Mv l yX5_addFact cX5_addFact 2 none 1 gx_tb E σ τ [.ref (E.2.2 + 21), .int x1] (gq_v σ1 τ1) := by
  refine gx_bv (by decide +kernel) (Nat.le_of_ble_eq_true rfl) ?_
  intro P9 e9 s m9 below meth C9 S hr hlk hK hw ls hl
  have hl : lv_has ls 2 [(0, .ref (E.2.2 + 21)), (1, .int x1)] := hl
  exact b_X5_addFact_0 l S hr hlk hK N σ τ x1 h hw hl
/-! X5_rankOf -/
def B_X5_rankOf_0 (N : Nat) (σ : gI) (τ : gJ) (x0 : Int32) : Option (Int32 × gI × gJ) := if x0 = 8 then (some (4, σ, τ)) else (if x0 = 11 then (some (3, σ, τ)) else (if x0 = 12 then (some (3, σ, τ)) else (if x0 = 9 then (some (2, σ, τ)) else (if x0 = 10 then (some (2, σ, τ)) else (some (1, σ, τ))))))
set_option maxHeartbeats 4000000 in
set_option maxRecDepth 100000 in
theorem b_X5_rankOf_0 (l : Launch) (S : CallFix P9 m9 C9 cX5_rankOf 1 s av.toArray gx_G RX5) (hr : meth.sig.returnType = (some .int)) (hlk : meth.locks = false) (hK : gx_K E s) (N : Nat) (σ : gI) (τ : gJ) (x0 : Int32) {r : Int32} {σ1 : gI} {τ1 : gJ} (h : B_X5_rankOf_0 N σ τ x0 = some (r, σ1, τ1)) {H : Heap} {locs : List Loc} {ls : Array Slot} (hw : gx_W gx_tb gx_tb.length E s σ τ H locs) (hl : lv_has ls 1 [(0, .int x0)]) : W P9 l e9 (gx_rm 0) s m9 av.toArray below meth C9 H locs 0 0 (gq_Qi below av s E r σ1 τ1) (F0 m9 0 ls []) := by
  have hx := S.1
  have hb := S.2.1
  unfold B_X5_rankOf_0 at h
  refine lv_iload_n hx hb dX5_rankOf_0 rfl (lv_at hl 0 rfl) ?_
  refine lv_bipush (v := 8) hx hb dX5_rankOf_1 (by decide) ?_
  refine lv_icmp_ne (tgt := 8) hx hb dX5_rankOf_3 (by decide) (fun c_1 => ?_) (fun c_1 => ?_)
  · rw [if_neg c_1] at h
    refine lv_iload_n hx hb dX5_rankOf_8 rfl (lv_at hl 0 rfl) ?_
    refine lv_bipush (v := 11) hx hb dX5_rankOf_9 (by decide) ?_
    refine lv_icmp_eq (tgt := 20) hx hb dX5_rankOf_11 (by decide) (fun c_2 => ?_) (fun c_2 => ?_)
    · rw [if_pos c_2] at h
      refine lv_iconst (v := 3) hx hb dX5_rankOf_20 (by decide) ?_
      obtain ⟨rfl, rfl, rfl⟩ := sm_inj h
      exact gx_ri (post := gq_p 3 σ τ) (v := 3) S hr hlk hw rfl dX5_rankOf_21 ⟨rfl, rfl, rfl⟩
    · rw [if_neg c_2] at h
      refine lv_iload_n hx hb dX5_rankOf_14 rfl (lv_at hl 0 rfl) ?_
      refine lv_bipush (v := 12) hx hb dX5_rankOf_15 (by decide) ?_
      refine lv_icmp_ne (tgt := 22) hx hb dX5_rankOf_17 (by decide) (fun c_3 => ?_) (fun c_3 => ?_)
      · rw [if_neg c_3] at h
        refine lv_iload_n hx hb dX5_rankOf_22 rfl (lv_at hl 0 rfl) ?_
        refine lv_bipush (v := 9) hx hb dX5_rankOf_23 (by decide) ?_
        refine lv_icmp_eq (tgt := 34) hx hb dX5_rankOf_25 (by decide) (fun c_4 => ?_) (fun c_4 => ?_)
        · rw [if_pos c_4] at h
          refine lv_iconst (v := 2) hx hb dX5_rankOf_34 (by decide) ?_
          refine lv_goto (tgt := 39) hx hb dX5_rankOf_35 (by decide) ?_
          obtain ⟨rfl, rfl, rfl⟩ := sm_inj h
          exact gx_ri (post := gq_p 2 σ τ) (v := 2) S hr hlk hw rfl dX5_rankOf_39 ⟨rfl, rfl, rfl⟩
        · rw [if_neg c_4] at h
          refine lv_iload_n hx hb dX5_rankOf_28 rfl (lv_at hl 0 rfl) ?_
          refine lv_bipush (v := 10) hx hb dX5_rankOf_29 (by decide) ?_
          refine lv_icmp_ne (tgt := 38) hx hb dX5_rankOf_31 (by decide) (fun c_5 => ?_) (fun c_5 => ?_)
          · rw [if_neg c_5] at h
            refine lv_iconst (v := 1) hx hb dX5_rankOf_38 (by decide) ?_
            obtain ⟨rfl, rfl, rfl⟩ := sm_inj h
            exact gx_ri (post := gq_p 1 σ τ) (v := 1) S hr hlk hw rfl dX5_rankOf_39 ⟨rfl, rfl, rfl⟩
          · rw [if_pos c_5] at h
            refine lv_iconst (v := 2) hx hb dX5_rankOf_34 (by decide) ?_
            refine lv_goto (tgt := 39) hx hb dX5_rankOf_35 (by decide) ?_
            obtain ⟨rfl, rfl, rfl⟩ := sm_inj h
            exact gx_ri (post := gq_p 2 σ τ) (v := 2) S hr hlk hw rfl dX5_rankOf_39 ⟨rfl, rfl, rfl⟩
      · rw [if_pos c_3] at h
        refine lv_iconst (v := 3) hx hb dX5_rankOf_20 (by decide) ?_
        obtain ⟨rfl, rfl, rfl⟩ := sm_inj h
        exact gx_ri (post := gq_p 3 σ τ) (v := 3) S hr hlk hw rfl dX5_rankOf_21 ⟨rfl, rfl, rfl⟩
  · rw [if_pos c_1] at h
    refine lv_iconst (v := 4) hx hb dX5_rankOf_6 (by decide) ?_
    obtain ⟨rfl, rfl, rfl⟩ := sm_inj h
    exact gx_ri (post := gq_p 4 σ τ) (v := 4) S hr hlk hw rfl dX5_rankOf_7 ⟨rfl, rfl, rfl⟩
set_option maxHeartbeats 4000000 in
set_option maxRecDepth 100000 in
theorem c_X5_rankOf (l : Launch) {E : gE} (N : Nat) (σ : gI) (τ : gJ) (x0 : Int32) {r : Int32} {σ1 : gI} {τ1 : gJ} (h : B_X5_rankOf_0 N σ τ x0 = some (r, σ1, τ1)) : gx_Mi l yX5_rankOf cX5_rankOf 1 (some .int) 0 gx_tb E σ τ [.int x0] (gq_p r σ1 τ1) := by
  refine gx_bi (by decide +kernel) (Nat.le_of_ble_eq_true rfl) ?_
  intro P9 e9 s m9 below meth C9 S hr hlk hK hw ls hl
  have hl : lv_has ls 1 [(0, .int x0)] := hl
  exact b_X5_rankOf_0 l S hr hlk hK N σ τ x0 h hw hl
/-! X5_release -/
def C_X5_release_2 (N : Nat) (rec_2 : gI → gJ → Int32 → Int32 → Option (Unit × gI × gJ)) (σ : gI) (τ : gJ) (x1 : Int32) (x2 : Int32) : Option (Unit × gI × gJ) := if 40 ≤ x2 then (some ((), σ, τ)) else (if σ 21 4 ≤ 0 then (some ((), σ, τ)) else (if 40 < σ 21 4 then (some ((), σ, τ)) else (ck ((σ 21 4) - 1) 40 fun j_4 => nm (σ 24 j_4) fun v_5 => if v_5 = 16 then (some ((), σ, τ)) else (bd (B_X5_rankOf_0 N σ τ v_5) fun r_7 σ_7 τ_7 => if x1 ≤ r_7 then (nm (up2 σ_7 21 4 ((σ_7 21 4) - 1)) fun σ_9 => bd (B_X5_addStep_0 N σ_9 τ_7 v_5) fun _ σ_10 τ_10 => nm (x2 + 1) fun v_11 => rec_2 σ_10 τ_10 x1 v_11) else (some ((), σ_7, τ_7))))))
def H_X5_release_2 (N : Nat) : Nat → gI → gJ → Int32 → Int32 → Option (Unit × gI × gJ) := itn (fun rec_2 => C_X5_release_2 N rec_2) (fun _ _ _ _ => none)
def B_X5_release_0 (N : Nat) (σ : gI) (τ : gJ) (x1 : Int32) : Option (Unit × gI × gJ) := H_X5_release_2 N N σ τ x1 0
set_option maxHeartbeats 4000000 in
set_option maxRecDepth 100000 in
theorem k_X5_release_2 (l : Launch) (S : CallFix P9 m9 C9 cX5_release 4 s av.toArray gx_G RX5) (hr : meth.sig.returnType = none) (hlk : meth.locks = false) (hK : gx_K E s) (N : Nat) (rec_2 : gI → gJ → Int32 → Int32 → Option (Unit × gI × gJ)) (hrec_2 : ∀ (σ : gI) (τ : gJ) (x1 : Int32) (x2 : Int32) (r : Unit) (σ1 : gI) (τ1 : gJ) (H : Heap) (locs : List Loc) (ls : Array Slot), rec_2 σ τ x1 x2 = some (r, σ1, τ1) → gx_W gx_tb gx_tb.length E s σ τ H locs → lv_has ls 4 [(0, .ref (E.2.2 + 21)), (1, .int x1), (2, .int x2)] → W P9 l e9 (gx_rm 1) s m9 av.toArray below meth C9 H locs 0 0 (gq_Qv below av s E σ1 τ1) (F0 m9 2 ls [])) (σ : gI) (τ : gJ) (x1 : Int32) (x2 : Int32) {r : Unit} {σ1 : gI} {τ1 : gJ} (h : C_X5_release_2 N rec_2 σ τ x1 x2 = some (r, σ1, τ1)) {H : Heap} {locs : List Loc} {ls : Array Slot} (hw : gx_W gx_tb gx_tb.length E s σ τ H locs) (hl : lv_has ls 4 [(0, .ref (E.2.2 + 21)), (1, .int x1), (2, .int x2)]) : W P9 l e9 (gx_rm 1) s m9 av.toArray below meth C9 H locs 0 0 (gq_Qv below av s E σ1 τ1) (F0 m9 2 ls []) := by
  have hx := S.1
  have hb := S.2.1
  unfold C_X5_release_2 at h
  refine lv_iload_n hx hb dX5_release_2 rfl (lv_at hl 2 rfl) ?_
  refine lv_bipush (v := 40) hx hb dX5_release_3 (by decide) ?_
  refine lv_icmp_ge (tgt := 72) hx hb dX5_release_5 (by decide) (fun c_1 => ?_) (fun c_1 => ?_)
  · rw [if_pos c_1] at h
    obtain ⟨-, rfl, rfl⟩ := sm_inj h
    exact gx_rv (post := gq_v σ τ) S hr hlk hw dX5_release_72 ⟨rfl, rfl⟩
  · rw [if_neg c_1] at h
    refine lv_aload_n hx hb dX5_release_8 rfl (lv_at hl 0 rfl) ?_
    refine gx_get S hK hw t_21 cl_6 4 (by decide) rfl mw_204 rfl dX5_release_9 ?_
    refine lv_if_le (tgt := 72) hx hb dX5_release_12 (by decide) (fun c_2 => ?_) (fun c_2 => ?_)
    · rw [if_pos c_2] at h
      obtain ⟨-, rfl, rfl⟩ := sm_inj h
      exact gx_rv (post := gq_v σ τ) S hr hlk hw dX5_release_72 ⟨rfl, rfl⟩
    · rw [if_neg c_2] at h
      refine lv_aload_n hx hb dX5_release_15 rfl (lv_at hl 0 rfl) ?_
      refine gx_get S hK hw t_21 cl_6 4 (by decide) rfl mw_204 rfl dX5_release_16 ?_
      refine lv_bipush (v := 40) hx hb dX5_release_19 (by decide) ?_
      refine lv_icmp_gt (tgt := 72) hx hb dX5_release_21 (by decide) (fun c_3 => ?_) (fun c_3 => ?_)
      · rw [if_pos c_3] at h
        obtain ⟨-, rfl, rfl⟩ := sm_inj h
        exact gx_rv (post := gq_v σ τ) S hr hlk hw dX5_release_72 ⟨rfl, rfl⟩
      · rw [if_neg c_3] at h
        refine lv_aload_n hx hb dX5_release_24 rfl (lv_at hl 0 rfl) ?_
        refine gx_getr (j := 24) S hK hw t_21 cl_6 2 (by decide) rfl mw_202 rfl dX5_release_25 ?_
        refine lv_aload_n hx hb dX5_release_28 rfl (lv_at hl 0 rfl) ?_
        refine gx_get S hK hw t_21 cl_6 4 (by decide) rfl mw_204 rfl dX5_release_29 ?_
        refine lv_iconst (v := 1) hx hb dX5_release_32 (by decide) ?_
        refine lv_isub hx hb dX5_release_33 ?_
        obtain ⟨j_4, hj_4, hi_4, h⟩ := ck_some h
        refine gx_iald S hK hw t_24 j_4 hj_4 hi_4 dX5_release_34 ?_
        refine lv_istore_n (lv' := [(3, .int (σ 24 j_4)), (0, .ref (E.2.2 + 21)), (1, .int x1), (2, .int x2)]) hx hb dX5_release_35 rfl hl (by decide) rfl (fun ls hl => ?_)
        obtain ⟨v_5, e_5, h⟩ := nm_some h
        have hl : lv_has ls 4 [(3, .int v_5), (0, .ref (E.2.2 + 21)), (1, .int x1), (2, .int x2)] := by rw [e_5]; exact hl
        refine lv_iload_n hx hb dX5_release_36 rfl (lv_at hl 0 rfl) ?_
        refine lv_bipush (v := 16) hx hb dX5_release_37 (by decide) ?_
        refine lv_icmp_eq (tgt := 50) hx hb dX5_release_39 (by decide) (fun c_6 => ?_) (fun c_6 => ?_)
        · rw [if_pos c_6] at h
          obtain ⟨-, rfl, rfl⟩ := sm_inj h
          exact gx_rv (post := gq_v σ τ) S hr hlk hw dX5_release_50 ⟨rfl, rfl⟩
        · rw [if_neg c_6] at h
          refine lv_iload_n hx hb dX5_release_42 rfl (lv_at hl 0 rfl) ?_
          obtain ⟨r_7, σ_7, τ_7, q_7, h⟩ := bd_some h
          refine gx_cSi (As := [.int v_5]) (rest := []) S hK gx_ok hw (c_X5_rankOf l (E := E) N σ τ v_5 q_7) cw_X5_103 ⟨Nat.le_of_ble_eq_true rfl, Nat.le_of_ble_eq_true rfl⟩ rfl hl.1 rfl (Nat.le_of_ble_eq_true rfl) ⟨Nat.le_of_ble_eq_true rfl, Nat.le_of_ble_eq_true rfl⟩ dX5_release_43 (fun r9 σ9 τ9 H locs hp hw => ?_)
          obtain ⟨rfl, rfl, rfl⟩ := hp
          refine lv_iload_n hx hb dX5_release_46 rfl (lv_at hl 2 rfl) ?_
          refine lv_icmp_ge (tgt := 51) hx hb dX5_release_47 (by decide) (fun c_8 => ?_) (fun c_8 => ?_)
          · rw [if_pos c_8] at h
            refine lv_aload_n hx hb dX5_release_51 rfl (lv_at hl 1 rfl) ?_
            refine lv_dup hx hb dX5_release_52 rfl ?_
            refine gx_get S hK hw t_21 cl_6 4 (by decide) rfl mw_204 rfl dX5_release_53 ?_
            refine lv_iconst (v := 1) hx hb dX5_release_56 (by decide) ?_
            refine lv_isub hx hb dX5_release_57 ?_
            refine gx_put S hK gx_ok hw t_21 cl_6 4 (by decide) rfl mw_204 rfl rfl (ty := .int) (v := (σ_7 21 4) - 1) (by decide +kernel) rfl rfl dX5_release_58 (fun H locs hw => ?_)
            obtain ⟨σ_9, e_9, h⟩ := nm_some h
            rw [← e_9] at hw
            refine lv_aload_n hx hb dX5_release_61 rfl (lv_at hl 1 rfl) ?_
            refine lv_iload_n hx hb dX5_release_62 rfl (lv_at hl 0 rfl) ?_
            obtain ⟨u_10, σ_10, τ_10, q_10, h⟩ := bd_some h
            refine gx_cVv (As := [.int v_5]) (rest := []) S hK gx_ok hw (c_X5_addStep l (E := E) N σ_9 τ_7 v_5 q_10) cw_X5_84 t_21 cl_6 ⟨Nat.le_of_ble_eq_true rfl, Nat.le_of_ble_eq_true rfl⟩ rfl hl.1 rfl (Nat.le_of_ble_eq_true rfl) ⟨Nat.le_of_ble_eq_true rfl, Nat.le_of_ble_eq_true rfl⟩ dX5_release_63 (fun σ9 τ9 H locs hp hw => ?_)
            obtain ⟨rfl, rfl⟩ := hp
            refine lv_iinc (v := x2 + 1) (lv' := [(2, .int (x2 + 1)), (3, .int v_5), (0, .ref (E.2.2 + 21)), (1, .int x1)]) hx hb dX5_release_66 hl (k := 3) rfl rfl (by decide) rfl (fun ls hl => ?_)
            obtain ⟨v_11, e_11, h⟩ := nm_some h
            have hl : lv_has ls 4 [(2, .int v_11), (3, .int v_5), (0, .ref (E.2.2 + 21)), (1, .int x1)] := by rw [e_11]; exact hl
            refine lv_goto (tgt := 2) hx hb dX5_release_69 (by decide) ?_
            exact hrec_2 σ_10 τ_10 x1 v_11 _ _ _ _ _ _ h hw (lv_sub hl [2, 3, 0] rfl)
          · rw [if_neg c_8] at h
            obtain ⟨-, rfl, rfl⟩ := sm_inj h
            exact gx_rv (post := gq_v σ_7 τ_7) S hr hlk hw dX5_release_50 ⟨rfl, rfl⟩
set_option maxHeartbeats 4000000 in
set_option maxRecDepth 100000 in
theorem h_X5_release_2 (l : Launch) (S : CallFix P9 m9 C9 cX5_release 4 s av.toArray gx_G RX5) (hr : meth.sig.returnType = none) (hlk : meth.locks = false) (hK : gx_K E s) (N : Nat) : ∀ (n : Nat) (σ : gI) (τ : gJ) (x1 : Int32) (x2 : Int32) (r : Unit) (σ1 : gI) (τ1 : gJ), H_X5_release_2 N n σ τ x1 x2 = some (r, σ1, τ1) → ∀ (H : Heap) (locs : List Loc) (ls : Array Slot), gx_W gx_tb gx_tb.length E s σ τ H locs → lv_has ls 4 [(0, .ref (E.2.2 + 21)), (1, .int x1), (2, .int x2)] → W P9 l e9 (gx_rm 1) s m9 av.toArray below meth C9 H locs 0 0 (gq_Qv below av s E σ1 τ1) (F0 m9 2 ls []) := by
  intro n
  induction n with
  | zero => intro σ τ x1 x2 r σ1 τ1 h; cases h
  | succ n ih =>
    intro σ τ x1 x2 r σ1 τ1 h H locs ls hw hl
    exact k_X5_release_2 l S hr hlk hK N (H_X5_release_2 N n) (fun σ τ x1 x2 r σ1 τ1 H locs ls h hw hl => ih σ τ x1 x2 r σ1 τ1 h H locs ls hw hl) σ τ x1 x2 h hw hl
set_option maxHeartbeats 4000000 in
set_option maxRecDepth 100000 in
theorem b_X5_release_0 (l : Launch) (S : CallFix P9 m9 C9 cX5_release 4 s av.toArray gx_G RX5) (hr : meth.sig.returnType = none) (hlk : meth.locks = false) (hK : gx_K E s) (N : Nat) (σ : gI) (τ : gJ) (x1 : Int32) {r : Unit} {σ1 : gI} {τ1 : gJ} (h : B_X5_release_0 N σ τ x1 = some (r, σ1, τ1)) {H : Heap} {locs : List Loc} {ls : Array Slot} (hw : gx_W gx_tb gx_tb.length E s σ τ H locs) (hl : lv_has ls 4 [(0, .ref (E.2.2 + 21)), (1, .int x1)]) : W P9 l e9 (gx_rm 1) s m9 av.toArray below meth C9 H locs 0 0 (gq_Qv below av s E σ1 τ1) (F0 m9 0 ls []) := by
  have hx := S.1
  have hb := S.2.1
  unfold B_X5_release_0 at h
  refine lv_iconst (v := 0) hx hb dX5_release_0 (by decide) ?_
  refine lv_istore_n (lv' := [(2, .int 0), (0, .ref (E.2.2 + 21)), (1, .int x1)]) hx hb dX5_release_1 rfl hl (by decide) rfl (fun ls hl => ?_)
  exact h_X5_release_2 l S hr hlk hK N N σ τ x1 0 _ _ _ h _ _ _ hw (lv_sub hl [1, 2, 0] rfl)
set_option maxHeartbeats 4000000 in
set_option maxRecDepth 100000 in
theorem c_X5_release (l : Launch) {E : gE} (N : Nat) (σ : gI) (τ : gJ) (x1 : Int32) {r : Unit} {σ1 : gI} {τ1 : gJ} (h : B_X5_release_0 N σ τ x1 = some (r, σ1, τ1)) : gx_Mv l yX5_release cX5_release 4 none 1 gx_tb E σ τ [.ref (E.2.2 + 21), .int x1] (gq_v σ1 τ1) := by
  refine gx_bv (by decide +kernel) (Nat.le_of_ble_eq_true rfl) ?_
  intro P9 e9 s m9 below meth C9 S hr hlk hK hw ls hl
  have hl : lv_has ls 4 [(0, .ref (E.2.2 + 21)), (1, .int x1)] := hl
  exact b_X5_release_0 l S hr hlk hK N σ τ x1 h hw hl
/-! X5_finish -/
def B_X5_finish_0 (N : Nat) (σ : gI) (τ : gJ) (x1 : Int32) : Option (Int32 × gI × gJ) := if σ 21 8 = 0 then (if σ 21 5 ≤ 0 then (bd (B_X5_release_0 N σ τ 0) fun _ σ_3 τ_3 => some (0, σ_3, τ_3)) else (some ((-1) - x1, σ, τ))) else (some ((-1) - x1, σ, τ))
set_option maxHeartbeats 4000000 in
set_option maxRecDepth 100000 in
theorem b_X5_finish_0 (l : Launch) (S : CallFix P9 m9 C9 cX5_finish 2 s av.toArray gx_G RX5) (hr : meth.sig.returnType = (some .int)) (hlk : meth.locks = false) (hK : gx_K E s) (N : Nat) (σ : gI) (τ : gJ) (x1 : Int32) {r : Int32} {σ1 : gI} {τ1 : gJ} (h : B_X5_finish_0 N σ τ x1 = some (r, σ1, τ1)) {H : Heap} {locs : List Loc} {ls : Array Slot} (hw : gx_W gx_tb gx_tb.length E s σ τ H locs) (hl : lv_has ls 2 [(0, .ref (E.2.2 + 21)), (1, .int x1)]) : W P9 l e9 (gx_rm 2) s m9 av.toArray below meth C9 H locs 0 0 (gq_Qi below av s E r σ1 τ1) (F0 m9 0 ls []) := by
  have hx := S.1
  have hb := S.2.1
  unfold B_X5_finish_0 at h
  refine lv_aload_n hx hb dX5_finish_0 rfl (lv_at hl 0 rfl) ?_
  refine gx_get S hK hw t_21 cl_6 8 (by decide) rfl mw_208 rfl dX5_finish_1 ?_
  refine lv_if_ne (tgt := 14) hx hb dX5_finish_4 (by decide) (fun c_1 => ?_) (fun c_1 => ?_)
  · rw [if_neg c_1] at h
    refine lv_iconst (v := (-1)) hx hb dX5_finish_14 (by decide) ?_
    refine lv_iload_n hx hb dX5_finish_15 rfl (lv_at hl 1 rfl) ?_
    refine lv_isub hx hb dX5_finish_16 ?_
    obtain ⟨rfl, rfl, rfl⟩ := sm_inj h
    exact gx_ri (post := gq_p ((-1) - x1) σ τ) (v := (-1) - x1) S hr hlk hw rfl dX5_finish_17 ⟨rfl, rfl, rfl⟩
  · rw [if_pos c_1] at h
    refine lv_aload_n hx hb dX5_finish_7 rfl (lv_at hl 0 rfl) ?_
    refine gx_get S hK hw t_21 cl_6 5 (by decide) rfl mw_205 rfl dX5_finish_8 ?_
    refine lv_if_le (tgt := 18) hx hb dX5_finish_11 (by decide) (fun c_2 => ?_) (fun c_2 => ?_)
    · rw [if_pos c_2] at h
      refine lv_aload_n hx hb dX5_finish_18 rfl (lv_at hl 0 rfl) ?_
      refine lv_iconst (v := 0) hx hb dX5_finish_19 (by decide) ?_
      obtain ⟨u_3, σ_3, τ_3, q_3, h⟩ := bd_some h
      refine gx_cVv (As := [.int 0]) (rest := []) S hK gx_ok hw (c_X5_release l (E := E) N σ τ 0 q_3) cw_X5_72 t_21 cl_6 ⟨Nat.le_of_ble_eq_true rfl, Nat.le_of_ble_eq_true rfl⟩ rfl hl.1 rfl (Nat.le_of_ble_eq_true rfl) ⟨Nat.le_of_ble_eq_true rfl, Nat.le_of_ble_eq_true rfl⟩ dX5_finish_20 (fun σ9 τ9 H locs hp hw => ?_)
      obtain ⟨rfl, rfl⟩ := hp
      refine lv_iconst (v := 0) hx hb dX5_finish_23 (by decide) ?_
      obtain ⟨rfl, rfl, rfl⟩ := sm_inj h
      exact gx_ri (post := gq_p 0 σ_3 τ_3) (v := 0) S hr hlk hw rfl dX5_finish_24 ⟨rfl, rfl, rfl⟩
    · rw [if_neg c_2] at h
      refine lv_iconst (v := (-1)) hx hb dX5_finish_14 (by decide) ?_
      refine lv_iload_n hx hb dX5_finish_15 rfl (lv_at hl 1 rfl) ?_
      refine lv_isub hx hb dX5_finish_16 ?_
      obtain ⟨rfl, rfl, rfl⟩ := sm_inj h
      exact gx_ri (post := gq_p ((-1) - x1) σ τ) (v := (-1) - x1) S hr hlk hw rfl dX5_finish_17 ⟨rfl, rfl, rfl⟩
set_option maxHeartbeats 4000000 in
set_option maxRecDepth 100000 in
theorem c_X5_finish (l : Launch) {E : gE} (N : Nat) (σ : gI) (τ : gJ) (x1 : Int32) {r : Int32} {σ1 : gI} {τ1 : gJ} (h : B_X5_finish_0 N σ τ x1 = some (r, σ1, τ1)) : gx_Mi l yX5_finish cX5_finish 2 (some .int) 2 gx_tb E σ τ [.ref (E.2.2 + 21), .int x1] (gq_p r σ1 τ1) := by
  refine gx_bi (by decide +kernel) (Nat.le_of_ble_eq_true rfl) ?_
  intro P9 e9 s m9 below meth C9 S hr hlk hK hw ls hl
  have hl : lv_has ls 2 [(0, .ref (E.2.2 + 21)), (1, .int x1)] := hl
  exact b_X5_finish_0 l S hr hlk hK N σ τ x1 h hw hl
/-! X5_hold -/
def B_X5_hold_0 (N : Nat) (σ : gI) (τ : gJ) (x1 : Int32) : Option (Unit × gI × gJ) := if σ 21 4 < 0 then (some ((), σ, τ)) else (if 40 ≤ σ 21 4 then (some ((), σ, τ)) else (ck (σ 21 4) 40 fun j_3 => nm (up2 σ 24 j_3 x1) fun σ_4 => nm (up2 σ_4 21 4 ((σ_4 21 4) + 1)) fun σ_5 => some ((), σ_5, τ)))
set_option maxHeartbeats 4000000 in
set_option maxRecDepth 100000 in
theorem b_X5_hold_0 (l : Launch) (S : CallFix P9 m9 C9 cX5_hold 2 s av.toArray gx_G RX5) (hr : meth.sig.returnType = none) (hlk : meth.locks = false) (hK : gx_K E s) (N : Nat) (σ : gI) (τ : gJ) (x1 : Int32) {r : Unit} {σ1 : gI} {τ1 : gJ} (h : B_X5_hold_0 N σ τ x1 = some (r, σ1, τ1)) {H : Heap} {locs : List Loc} {ls : Array Slot} (hw : gx_W gx_tb gx_tb.length E s σ τ H locs) (hl : lv_has ls 2 [(0, .ref (E.2.2 + 21)), (1, .int x1)]) : W P9 l e9 (gx_rm 0) s m9 av.toArray below meth C9 H locs 0 0 (gq_Qv below av s E σ1 τ1) (F0 m9 0 ls []) := by
  have hx := S.1
  have hb := S.2.1
  unfold B_X5_hold_0 at h
  refine lv_aload_n hx hb dX5_hold_0 rfl (lv_at hl 0 rfl) ?_
  refine gx_get S hK hw t_21 cl_6 4 (by decide) rfl mw_204 rfl dX5_hold_1 ?_
  refine lv_if_lt (tgt := 36) hx hb dX5_hold_4 (by decide) (fun c_1 => ?_) (fun c_1 => ?_)
  · rw [if_pos c_1] at h
    obtain ⟨-, rfl, rfl⟩ := sm_inj h
    exact gx_rv (post := gq_v σ τ) S hr hlk hw dX5_hold_36 ⟨rfl, rfl⟩
  · rw [if_neg c_1] at h
    refine lv_aload_n hx hb dX5_hold_7 rfl (lv_at hl 0 rfl) ?_
    refine gx_get S hK hw t_21 cl_6 4 (by decide) rfl mw_204 rfl dX5_hold_8 ?_
    refine lv_bipush (v := 40) hx hb dX5_hold_11 (by decide) ?_
    refine lv_icmp_ge (tgt := 36) hx hb dX5_hold_13 (by decide) (fun c_2 => ?_) (fun c_2 => ?_)
    · rw [if_pos c_2] at h
      obtain ⟨-, rfl, rfl⟩ := sm_inj h
      exact gx_rv (post := gq_v σ τ) S hr hlk hw dX5_hold_36 ⟨rfl, rfl⟩
    · rw [if_neg c_2] at h
      refine lv_aload_n hx hb dX5_hold_16 rfl (lv_at hl 0 rfl) ?_
      refine gx_getr (j := 24) S hK hw t_21 cl_6 2 (by decide) rfl mw_202 rfl dX5_hold_17 ?_
      refine lv_aload_n hx hb dX5_hold_20 rfl (lv_at hl 0 rfl) ?_
      refine gx_get S hK hw t_21 cl_6 4 (by decide) rfl mw_204 rfl dX5_hold_21 ?_
      refine lv_iload_n hx hb dX5_hold_24 rfl (lv_at hl 1 rfl) ?_
      obtain ⟨j_3, hj_3, hi_3, h⟩ := ck_some h
      refine gx_iast S hK gx_ok hw t_24 j_3 hj_3 hi_3 dX5_hold_25 (fun H locs hw => ?_)
      obtain ⟨σ_4, e_4, h⟩ := nm_some h
      rw [← e_4] at hw
      refine lv_aload_n hx hb dX5_hold_26 rfl (lv_at hl 0 rfl) ?_
      refine lv_dup hx hb dX5_hold_27 rfl ?_
      refine gx_get S hK hw t_21 cl_6 4 (by decide) rfl mw_204 rfl dX5_hold_28 ?_
      refine lv_iconst (v := 1) hx hb dX5_hold_31 (by decide) ?_
      refine lv_iadd hx hb dX5_hold_32 ?_
      refine gx_put S hK gx_ok hw t_21 cl_6 4 (by decide) rfl mw_204 rfl rfl (ty := .int) (v := (σ_4 21 4) + 1) (by decide +kernel) rfl rfl dX5_hold_33 (fun H locs hw => ?_)
      obtain ⟨σ_5, e_5, h⟩ := nm_some h
      rw [← e_5] at hw
      obtain ⟨-, rfl, rfl⟩ := sm_inj h
      exact gx_rv (post := gq_v σ_5 τ) S hr hlk hw dX5_hold_36 ⟨rfl, rfl⟩
set_option maxHeartbeats 4000000 in
set_option maxRecDepth 100000 in
theorem c_X5_hold (l : Launch) {E : gE} (N : Nat) (σ : gI) (τ : gJ) (x1 : Int32) {r : Unit} {σ1 : gI} {τ1 : gJ} (h : B_X5_hold_0 N σ τ x1 = some (r, σ1, τ1)) : gx_Mv l yX5_hold cX5_hold 2 none 0 gx_tb E σ τ [.ref (E.2.2 + 21), .int x1] (gq_v σ1 τ1) := by
  refine gx_bv (by decide +kernel) (Nat.le_of_ble_eq_true rfl) ?_
  intro P9 e9 s m9 below meth C9 S hr hlk hK hw ls hl
  have hl : lv_has ls 2 [(0, .ref (E.2.2 + 21)), (1, .int x1)] := hl
  exact b_X5_hold_0 l S hr hlk hK N σ τ x1 h hw hl
end F3
