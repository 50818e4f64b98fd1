section F1
variable {a9 v9 : Nat} {w9 : Value} {P9 : Program} {e9 : Env} {s : State} {m9 : MethodId} {below : List Frame} {meth : Method} {C9 : Code} {E : gE} {av : List Value}
/-! X1_arrives -/
def B_X1_arrives_23 (N : Nat) (d : Nat) (σ : gI) (τ : gJ) (x2 : Int32) (x3 : Int32) (y0 : Int32) : Option (Int32 × gI × gJ) := bd (B_X6_setPaper_0 N d σ τ x2 (imax 0 y0)) fun _ σ_1 τ_1 => bd (B_X6_move_0 N d σ_1 τ_1 x2 x3) fun _ σ_2 τ_2 => if 0 ≤ y0 then (bd (B_X8_isKitchen_0 N σ_2 τ_2 x3) fun r_4 σ_4 τ_4 => if r_4 = 0 then (some (1, σ_4, τ_4)) else (bd (B_X6_comeHome_0 N d σ_4 τ_4 x2) fun _ σ_6 τ_6 => some (0, σ_6, τ_6))) else (bd (B_X6_lose_0 N d σ_2 τ_2 x2) fun _ σ_7 τ_7 => some (0, σ_7, τ_7))
def B_X1_arrives_0 (N : Nat) (d : Nat) (σ : gI) (τ : gJ) (x2 : Int32) (x3 : Int32) (x4 : Int32) : Option (Int32 × gI × gJ) := if σ 158 7 = 0 then (bd (B_X6_paperOf_0 N d σ τ x2) fun r_2 σ_2 τ_2 => B_X1_arrives_23 N d σ_2 τ_2 x2 x3 (r_2 - x4)) else (bd (B_X6_paperOf_0 N d σ τ x2) fun r_3 σ_3 τ_3 => B_X1_arrives_23 N d σ_3 τ_3 x2 x3 r_3)
set_option maxHeartbeats 4000000 in
set_option maxRecDepth 100000 in
theorem b_X1_arrives_23 (l : Launch) (S : CallFix P9 m9 C9 cX1_arrives 6 s av.toArray gx_G RX1) (hr : meth.sig.returnType = (some .boolean)) (hlk : meth.locks = false) (hK : gx_K E s) (N : Nat) (d : Nat) (td : gx_isS d) (σ : gI) (τ : gJ) (x2 : Int32) (x3 : Int32) (y0 : Int32) {r : Int32} {σ1 : gI} {τ1 : gJ} (h : B_X1_arrives_23 N d σ τ x2 x3 y0 = some (r, σ1, τ1)) {H : Heap} {locs : List Loc} {ls : Array Slot} (hw : gx_W gx_tb gx_tb.length E s σ τ H locs) (hl : lv_has ls 6 [(0, .ref (E.2.2 + 158)), (1, .ref (E.2.2 + d)), (2, .int x2), (3, .int x3)]) : W P9 l e9 (gx_rm 1) s m9 av.toArray below meth C9 H locs 0 0 (gq_Qi below av s E r σ1 τ1) (F0 m9 23 ls [.int y0]) := by
  have hx := S.1
  have hb := S.2.1
  unfold B_X1_arrives_23 at h
  refine lv_istore (lv' := [(5, .int y0), (0, .ref (E.2.2 + 158)), (1, .ref (E.2.2 + d)), (2, .int x2), (3, .int x3)]) hx hb dX1_arrives_23 hl (by decide) rfl (fun ls hl => ?_)
  refine lv_aload_n hx hb dX1_arrives_25 rfl (lv_at hl 2 rfl) ?_
  refine lv_iload_n hx hb dX1_arrives_26 rfl (lv_at hl 3 rfl) ?_
  refine lv_iconst (v := 0) hx hb dX1_arrives_27 (by decide) ?_
  refine lv_iload hx hb dX1_arrives_28 (lv_at hl 0 rfl) ?_
  refine gx_max (w := imax 0 y0) S hl.1 mw_921 mw_577 mw_102 mw_578 ⟨Nat.le_of_ble_eq_true rfl, Nat.le_of_ble_eq_true rfl⟩ ⟨Nat.le_of_ble_eq_true rfl, Nat.le_of_ble_eq_true rfl⟩ dX1_arrives_30 rfl ?_
  obtain ⟨u_1, σ_1, τ_1, q_1, h⟩ := bd_some h
  refine gx_cVv (As := [.int x2, .int (imax 0 y0)]) (rest := []) S hK gx_ok hw (c_X6_setPaper l (E := E) N d td σ τ x2 (imax 0 y0) q_1) cw_X1_146 td.1 cl_7 ⟨Nat.le_of_ble_eq_true rfl, Nat.le_of_ble_eq_true rfl⟩ rfl hl.1 rfl (Nat.le_of_ble_eq_true rfl) ⟨Nat.le_of_ble_eq_true rfl, Nat.le_of_ble_eq_true rfl⟩ dX1_arrives_33 (fun σ9 τ9 H locs hp hw => ?_)
  obtain ⟨rfl, rfl⟩ := hp
  refine lv_aload_n hx hb dX1_arrives_36 rfl (lv_at hl 2 rfl) ?_
  refine lv_iload_n hx hb dX1_arrives_37 rfl (lv_at hl 3 rfl) ?_
  refine lv_iload_n hx hb dX1_arrives_38 rfl (lv_at hl 4 rfl) ?_
  obtain ⟨u_2, σ_2, τ_2, q_2, h⟩ := bd_some h
  refine gx_cVv (As := [.int x2, .int x3]) (rest := []) S hK gx_ok hw (c_X6_move l (E := E) N d td σ_1 τ_1 x2 x3 q_2) cw_X1_149 td.1 cl_7 ⟨Nat.le_of_ble_eq_true rfl, Nat.le_of_ble_eq_true rfl⟩ rfl hl.1 rfl (Nat.le_of_ble_eq_true rfl) ⟨Nat.le_of_ble_eq_true rfl, Nat.le_of_ble_eq_true rfl⟩ dX1_arrives_39 (fun σ9 τ9 H locs hp hw => ?_)
  obtain ⟨rfl, rfl⟩ := hp
  refine lv_iload hx hb dX1_arrives_42 (lv_at hl 0 rfl) ?_
  refine lv_if_ge (tgt := 54) hx hb dX1_arrives_44 (by decide) (fun c_3 => ?_) (fun c_3 => ?_)
  · rw [if_pos c_3] at h
    refine lv_aload_n hx hb dX1_arrives_54 rfl (lv_at hl 1 rfl) ?_
    refine gx_getr (j := 3) S hK hw t_158 cl_2 0 (by decide) rfl mw_371 rfl dX1_arrives_55 ?_
    refine lv_iload_n hx hb dX1_arrives_58 rfl (lv_at hl 4 rfl) ?_
    obtain ⟨r_4, σ_4, τ_4, q_4, h⟩ := bd_some h
    refine gx_cVi (As := [.int x3]) (rest := []) S hK gx_ok hw (c_X8_isKitchen l (E := E) N σ_2 τ_2 x3 q_4) cw_X1_152 t_3 cl_9 ⟨Nat.le_of_ble_eq_true rfl, Nat.le_of_ble_eq_true rfl⟩ rfl hl.1 rfl (Nat.le_of_ble_eq_true rfl) ⟨Nat.le_of_ble_eq_true rfl, Nat.le_of_ble_eq_true rfl⟩ dX1_arrives_59 (fun r9 σ9 τ9 H locs hp hw => ?_)
    obtain ⟨rfl, rfl, rfl⟩ := hp
    refine lv_if_eq (tgt := 72) hx hb dX1_arrives_62 (by decide) (fun c_5 => ?_) (fun c_5 => ?_)
    · rw [if_pos c_5] at h
      refine lv_iconst (v := 1) hx hb dX1_arrives_72 (by decide) ?_
      obtain ⟨rfl, rfl, rfl⟩ := sm_inj h
      exact gx_ri (post := gq_p 1 σ_4 τ_4) (v := 1) S hr hlk hw rfl dX1_arrives_73 ⟨rfl, rfl, rfl⟩
    · rw [if_neg c_5] at h
      refine lv_aload_n hx hb dX1_arrives_65 rfl (lv_at hl 2 rfl) ?_
      refine lv_iload_n hx hb dX1_arrives_66 rfl (lv_at hl 3 rfl) ?_
      obtain ⟨u_6, σ_6, τ_6, q_6, h⟩ := bd_some h
      refine gx_cVv (As := [.int x2]) (rest := []) S hK gx_ok hw (c_X6_comeHome l (E := E) N d td σ_4 τ_4 x2 q_6) cw_X1_155 td.1 cl_7 ⟨Nat.le_of_ble_eq_true rfl, Nat.le_of_ble_eq_true rfl⟩ rfl hl.1 rfl (Nat.le_of_ble_eq_true rfl) ⟨Nat.le_of_ble_eq_true rfl, Nat.le_of_ble_eq_true rfl⟩ dX1_arrives_67 (fun σ9 τ9 H locs hp hw => ?_)
      obtain ⟨rfl, rfl⟩ := hp
      refine lv_iconst (v := 0) hx hb dX1_arrives_70 (by decide) ?_
      obtain ⟨rfl, rfl, rfl⟩ := sm_inj h
      exact gx_ri (post := gq_p 0 σ_6 τ_6) (v := 0) S hr hlk hw rfl dX1_arrives_71 ⟨rfl, rfl, rfl⟩
  · rw [if_neg c_3] at h
    refine lv_aload_n hx hb dX1_arrives_47 rfl (lv_at hl 2 rfl) ?_
    refine lv_iload_n hx hb dX1_arrives_48 rfl (lv_at hl 3 rfl) ?_
    obtain ⟨u_7, σ_7, τ_7, q_7, h⟩ := bd_some h
    refine gx_cVv (As := [.int x2]) (rest := []) S hK gx_ok hw (c_X6_lose l (E := E) N d td σ_2 τ_2 x2 q_7) cw_X1_92 td.1 cl_7 ⟨Nat.le_of_ble_eq_true rfl, Nat.le_of_ble_eq_true rfl⟩ rfl hl.1 rfl (Nat.le_of_ble_eq_true rfl) ⟨Nat.le_of_ble_eq_true rfl, Nat.le_of_ble_eq_true rfl⟩ dX1_arrives_49 (fun σ9 τ9 H locs hp hw => ?_)
    obtain ⟨rfl, rfl⟩ := hp
    refine lv_iconst (v := 0) hx hb dX1_arrives_52 (by decide) ?_
    obtain ⟨rfl, rfl, rfl⟩ := sm_inj h
    exact gx_ri (post := gq_p 0 σ_7 τ_7) (v := 0) S hr hlk hw rfl dX1_arrives_53 ⟨rfl, rfl, rfl⟩
set_option maxHeartbeats 4000000 in
set_option maxRecDepth 100000 in
theorem b_X1_arrives_0 (l : Launch) (S : CallFix P9 m9 C9 cX1_arrives 6 s av.toArray gx_G RX1) (hr : meth.sig.returnType = (some .boolean)) (hlk : meth.locks = false) (hK : gx_K E s) (N : Nat) (d : Nat) (td : gx_isS d) (σ : gI) (τ : gJ) (x2 : Int32) (x3 : Int32) (x4 : Int32) {r : Int32} {σ1 : gI} {τ1 : gJ} (h : B_X1_arrives_0 N d σ τ x2 x3 x4 = some (r, σ1, τ1)) {H : Heap} {locs : List Loc} {ls : Array Slot} (hw : gx_W gx_tb gx_tb.length E s σ τ H locs) (hl : lv_has ls 6 [(0, .ref (E.2.2 + 158)), (1, .ref (E.2.2 + d)), (2, .int x2), (3, .int x3), (4, .int x4)]) : W P9 l e9 (gx_rm 1) s m9 av.toArray below meth C9 H locs 0 0 (gq_Qi below av s E r σ1 τ1) (F0 m9 0 ls []) := by
  have hx := S.1
  have hb := S.2.1
  unfold B_X1_arrives_0 at h
  refine lv_aload_n hx hb dX1_arrives_0 rfl (lv_at hl 0 rfl) ?_
  refine gx_get S hK hw t_158 cl_2 7 (by decide) rfl mw_381 rfl dX1_arrives_1 ?_
  refine lv_if_eq (tgt := 15) hx hb dX1_arrives_4 (by decide) (fun c_1 => ?_) (fun c_1 => ?_)
  · rw [if_pos c_1] at h
    refine lv_aload_n hx hb dX1_arrives_15 rfl (lv_at hl 1 rfl) ?_
    refine lv_iload_n hx hb dX1_arrives_16 rfl (lv_at hl 2 rfl) ?_
    obtain ⟨r_2, σ_2, τ_2, q_2, h⟩ := bd_some h
    refine gx_cVi (As := [.int x2]) (rest := []) S hK gx_ok hw (c_X6_paperOf l (E := E) N d td σ τ x2 q_2) cw_X1_115 td.1 cl_7 ⟨Nat.le_of_ble_eq_true rfl, Nat.le_of_ble_eq_true rfl⟩ rfl hl.1 rfl (Nat.le_of_ble_eq_true rfl) ⟨Nat.le_of_ble_eq_true rfl, Nat.le_of_ble_eq_true rfl⟩ dX1_arrives_17 (fun r9 σ9 τ9 H locs hp hw => ?_)
    obtain ⟨rfl, rfl, rfl⟩ := hp
    refine lv_iload hx hb dX1_arrives_20 (lv_at hl 4 rfl) ?_
    refine lv_isub hx hb dX1_arrives_22 ?_
    exact b_X1_arrives_23 l S hr hlk hK N d td σ_2 τ_2 x2 x3 (r_2 - x4) h hw (lv_sub hl [0, 1, 2, 3] rfl)
  · rw [if_neg c_1] at h
    refine lv_aload_n hx hb dX1_arrives_7 rfl (lv_at hl 1 rfl) ?_
    refine lv_iload_n hx hb dX1_arrives_8 rfl (lv_at hl 2 rfl) ?_
    obtain ⟨r_3, σ_3, τ_3, q_3, h⟩ := bd_some h
    refine gx_cVi (As := [.int x2]) (rest := []) S hK gx_ok hw (c_X6_paperOf l (E := E) N d td σ τ x2 q_3) cw_X1_115 td.1 cl_7 ⟨Nat.le_of_ble_eq_true rfl, Nat.le_of_ble_eq_true rfl⟩ rfl hl.1 rfl (Nat.le_of_ble_eq_true rfl) ⟨Nat.le_of_ble_eq_true rfl, Nat.le_of_ble_eq_true rfl⟩ dX1_arrives_9 (fun r9 σ9 τ9 H locs hp hw => ?_)
    obtain ⟨rfl, rfl, rfl⟩ := hp
    refine lv_goto (tgt := 23) hx hb dX1_arrives_12 (by decide) ?_
    exact b_X1_arrives_23 l S hr hlk hK N d td σ_3 τ_3 x2 x3 r_3 h hw (lv_sub hl [0, 1, 2, 3] rfl)
set_option maxHeartbeats 4000000 in
set_option maxRecDepth 100000 in
theorem c_X1_arrives (l : Launch) {E : gE} (N : Nat) (d : Nat) (td : gx_isS d) (σ : gI) (τ : gJ) (x2 : Int32) (x3 : Int32) (x4 : Int32) {r : Int32} {σ1 : gI} {τ1 : gJ} (h : B_X1_arrives_0 N d σ τ x2 x3 x4 = some (r, σ1, τ1)) : gx_Mi l yX1_arrives cX1_arrives 6 (some .boolean) 1 gx_tb E σ τ [.ref (E.2.2 + 158), .ref (E.2.2 + d), .int x2, .int x3, .int x4] (gq_p r σ1 τ1) := by
  refine gx_bi (by decide +kernel) (Nat.le_of_ble_eq_true rfl) ?_
  intro P9 e9 s m9 below meth C9 S hr hlk hK hw ls hl
  have hl : lv_has ls 6 [(0, .ref (E.2.2 + 158)), (1, .ref (E.2.2 + d)), (2, .int x2), (3, .int x3), (4, .int x4)] := hl
  exact b_X1_arrives_0 l S hr hlk hK N d td σ τ x2 x3 x4 h hw hl
/-! X1_step -/
def B_X1_step_172 (N : Nat) (d : Nat) (σ : gI) (τ : gJ) (x2 : Int32) (x6 : Int32) (x7 : Int32) : Option (Int32 × gI × gJ) := nm (up2 σ 158 6 ((σ 158 6) + 1)) fun σ_1 => bd (B_X1_arrives_0 N d σ_1 τ x2 x6 x7) fun r_2 σ_2 τ_2 => cb r_2 <| some (r_2, σ_2, τ_2)
def B_X1_step_0 (N : Nat) (d : Nat) (σ : gI) (τ : gJ) (x2 : Int32) (x3 : Int32) : Option (Int32 × gI × gJ) := bd (B_X6_spotOf_0 N d σ τ x2) fun r_1 σ_1 τ_1 => bd (B_X8_figureOf_0 N σ_1 τ_1 r_1) fun r_2 σ_2 τ_2 => bd (B_X8_nextOf_0 N σ_2 τ_2 r_1) fun r_3 σ_3 τ_3 => bd (B_X8_kindOf_0 N σ_3 τ_3 r_1) fun r_4 σ_4 τ_4 => if r_4 = 1 then (bd (B_X1_wayOf_0 N d σ_4 τ_4 x2 r_1 x3) fun r_6 σ_6 τ_6 => B_X1_step_172 N d σ_6 τ_6 x2 r_6 1) else if r_4 = 2 then (nm (1 + r_2) fun v_8 => B_X1_step_172 N d σ_4 τ_4 x2 r_3 v_8) else if r_4 = 3 then (bd (B_X1_pays_0 N d σ_4 τ_4 x2 r_2) fun r_10 σ_10 τ_10 => if r_10 = 0 then (some (0, σ_10, τ_10)) else (B_X1_step_172 N d σ_10 τ_10 x2 r_3 1)) else if r_4 = 4 then (nm ((σ_4 d 8) - (σ_4 d 8) / 10 * 10) fun v_13 => if v_13 < r_2 / 10 then (B_X1_step_172 N d σ_4 τ_4 x2 r_3 1) else (if r_2 - r_2 / 10 * 10 < v_13 then (B_X1_step_172 N d σ_4 τ_4 x2 r_3 1) else (bd (B_X6_lose_0 N d σ_4 τ_4 x2) fun _ σ_16 τ_16 => some (0, σ_16, τ_16)))) else if r_4 = 5 then (if r_2 ≤ 0 then (some (0, σ_4, τ_4)) else (dz r_2 <| if (σ_4 d 8) - (σ_4 d 8) / r_2 * r_2 = 0 then (B_X1_step_172 N d σ_4 τ_4 x2 r_3 1) else (some (0, σ_4, τ_4)))) else if r_4 = 6 then (some (0, σ_4, τ_4)) else (B_X1_step_172 N d σ_4 τ_4 x2 r_3 1)
set_option maxHeartbeats 4000000 in
set_option maxRecDepth 100000 in
theorem b_X1_step_172 (l : Launch) (S : CallFix P9 m9 C9 cX1_step 9 s av.toArray gx_G RX1) (hr : meth.sig.returnType = (some .boolean)) (hlk : meth.locks = false) (hK : gx_K E s) (N : Nat) (d : Nat) (td : gx_isS d) (σ : gI) (τ : gJ) (x2 : Int32) (x6 : Int32) (x7 : Int32) {r : Int32} {σ1 : gI} {τ1 : gJ} (h : B_X1_step_172 N d σ τ x2 x6 x7 = some (r, σ1, τ1)) {H : Heap} {locs : List Loc} {ls : Array Slot} (hw : gx_W gx_tb gx_tb.length E s σ τ H locs) (hl : lv_has ls 9 [(0, .ref (E.2.2 + 158)), (1, .ref (E.2.2 + d)), (2, .int x2), (6, .int x6), (7, .int x7)]) : W P9 l e9 (gx_rm 2) s m9 av.toArray below meth C9 H locs 0 0 (gq_Qi below av s E r σ1 τ1) (F0 m9 172 ls []) := by
  have hx := S.1
  have hb := S.2.1
  unfold B_X1_step_172 at h
  refine lv_aload_n hx hb dX1_step_172 rfl (lv_at hl 0 rfl) ?_
  refine lv_dup hx hb dX1_step_173 rfl ?_
  refine gx_get S hK hw t_158 cl_2 6 (by decide) rfl mw_379 rfl dX1_step_174 ?_
  refine lv_iconst (v := 1) hx hb dX1_step_177 (by decide) ?_
  refine lv_iadd hx hb dX1_step_178 ?_
  refine gx_put S hK gx_ok hw t_158 cl_2 6 (by decide) rfl mw_379 rfl rfl (ty := .int) (v := (σ 158 6) + 1) (by decide +kernel) rfl rfl dX1_step_179 (fun H locs hw => ?_)
  obtain ⟨σ_1, e_1, h⟩ := nm_some h
  rw [← e_1] at hw
  refine lv_aload_n hx hb dX1_step_182 rfl (lv_at hl 0 rfl) ?_
  refine lv_aload_n hx hb dX1_step_183 rfl (lv_at hl 1 rfl) ?_
  refine lv_iload_n hx hb dX1_step_184 rfl (lv_at hl 2 rfl) ?_
  refine lv_iload hx hb dX1_step_185 (lv_at hl 3 rfl) ?_
  refine lv_iload hx hb dX1_step_187 (lv_at hl 4 rfl) ?_
  obtain ⟨r_2, σ_2, τ_2, q_2, h⟩ := bd_some h
  refine gx_cVi (As := [.ref (E.2.2 + d), .int x2, .int x6, .int x7]) (rest := []) S hK gx_ok hw (c_X1_arrives l (E := E) N d td σ_1 τ x2 x6 x7 q_2) cw_X1_99 t_158 cl_2 ⟨Nat.le_of_ble_eq_true rfl, Nat.le_of_ble_eq_true rfl⟩ rfl hl.1 rfl (Nat.le_of_ble_eq_true rfl) ⟨Nat.le_of_ble_eq_true rfl, Nat.le_of_ble_eq_true rfl⟩ dX1_step_189 (fun r9 σ9 τ9 H locs hp hw => ?_)
  obtain ⟨rfl, rfl, rfl⟩ := hp
  obtain ⟨hq_3, h⟩ := cb_some h
  obtain ⟨rfl, rfl, rfl⟩ := sm_inj h
  exact gx_ri (post := gq_p r_2 σ_2 τ_2) (v := r_2) S hr hlk hw (cb_nar hq_3) dX1_step_192 ⟨rfl, rfl, rfl⟩
set_option maxHeartbeats 4000000 in
set_option maxRecDepth 100000 in
theorem b_X1_step_0 (l : Launch) (S : CallFix P9 m9 C9 cX1_step 9 s av.toArray gx_G RX1) (hr : meth.sig.returnType = (some .boolean)) (hlk : meth.locks = false) (hK : gx_K E s) (N : Nat) (d : Nat) (td : gx_isS d) (σ : gI) (τ : gJ) (x2 : Int32) (x3 : Int32) {r : Int32} {σ1 : gI} {τ1 : gJ} (h : B_X1_step_0 N d σ τ x2 x3 = some (r, σ1, τ1)) {H : Heap} {locs : List Loc} {ls : Array Slot} (hw : gx_W gx_tb gx_tb.length E s σ τ H locs) (hl : lv_has ls 9 [(0, .ref (E.2.2 + 158)), (1, .ref (E.2.2 + d)), (2, .int x2), (3, .int x3)]) : W P9 l e9 (gx_rm 2) s m9 av.toArray below meth C9 H locs 0 0 (gq_Qi below av s E r σ1 τ1) (F0 m9 0 ls []) := by
  have hx := S.1
  have hb := S.2.1
  unfold B_X1_step_0 at h
  refine lv_aload_n hx hb dX1_step_0 rfl (lv_at hl 1 rfl) ?_
  refine lv_iload_n hx hb dX1_step_1 rfl (lv_at hl 2 rfl) ?_
  obtain ⟨r_1, σ_1, τ_1, q_1, h⟩ := bd_some h
  refine gx_cVi (As := [.int x2]) (rest := []) S hK gx_ok hw (c_X6_spotOf l (E := E) N d td σ τ x2 q_1) cw_X1_71 td.1 cl_7 ⟨Nat.le_of_ble_eq_true rfl, Nat.le_of_ble_eq_true rfl⟩ rfl hl.1 rfl (Nat.le_of_ble_eq_true rfl) ⟨Nat.le_of_ble_eq_true rfl, Nat.le_of_ble_eq_true rfl⟩ dX1_step_2 (fun r9 σ9 τ9 H locs hp hw => ?_)
  obtain ⟨rfl, rfl, rfl⟩ := hp
  refine lv_istore (lv' := [(4, .int r_1), (0, .ref (E.2.2 + 158)), (1, .ref (E.2.2 + d)), (2, .int x2), (3, .int x3)]) hx hb dX1_step_5 hl (by decide) rfl (fun ls hl => ?_)
  refine lv_aload_n hx hb dX1_step_7 rfl (lv_at hl 1 rfl) ?_
  refine gx_getr (j := 3) S hK hw t_158 cl_2 0 (by decide) rfl mw_371 rfl dX1_step_8 ?_
  refine lv_iload hx hb dX1_step_11 (lv_at hl 0 rfl) ?_
  obtain ⟨r_2, σ_2, τ_2, q_2, h⟩ := bd_some h
  refine gx_cVi (As := [.int r_1]) (rest := []) S hK gx_ok hw (c_X8_figureOf l (E := E) N σ_1 τ_1 r_1 q_2) cw_X1_74 t_3 cl_9 ⟨Nat.le_of_ble_eq_true rfl, Nat.le_of_ble_eq_true rfl⟩ rfl hl.1 rfl (Nat.le_of_ble_eq_true rfl) ⟨Nat.le_of_ble_eq_true rfl, Nat.le_of_ble_eq_true rfl⟩ dX1_step_13 (fun r9 σ9 τ9 H locs hp hw => ?_)
  obtain ⟨rfl, rfl, rfl⟩ := hp
  refine lv_istore (lv' := [(5, .int r_2), (4, .int r_1), (0, .ref (E.2.2 + 158)), (1, .ref (E.2.2 + d)), (2, .int x2), (3, .int x3)]) hx hb dX1_step_16 hl (by decide) rfl (fun ls hl => ?_)
  refine lv_aload_n hx hb dX1_step_18 rfl (lv_at hl 2 rfl) ?_
  refine gx_getr (j := 3) S hK hw t_158 cl_2 0 (by decide) rfl mw_371 rfl dX1_step_19 ?_
  refine lv_iload hx hb dX1_step_22 (lv_at hl 1 rfl) ?_
  obtain ⟨r_3, σ_3, τ_3, q_3, h⟩ := bd_some h
  refine gx_cVi (As := [.int r_1]) (rest := []) S hK gx_ok hw (c_X8_nextOf l (E := E) N σ_2 τ_2 r_1 q_3) cw_X1_79 t_3 cl_9 ⟨Nat.le_of_ble_eq_true rfl, Nat.le_of_ble_eq_true rfl⟩ rfl hl.1 rfl (Nat.le_of_ble_eq_true rfl) ⟨Nat.le_of_ble_eq_true rfl, Nat.le_of_ble_eq_true rfl⟩ dX1_step_24 (fun r9 σ9 τ9 H locs hp hw => ?_)
  obtain ⟨rfl, rfl, rfl⟩ := hp
  refine lv_istore (lv' := [(6, .int r_3), (5, .int r_2), (4, .int r_1), (0, .ref (E.2.2 + 158)), (1, .ref (E.2.2 + d)), (2, .int x2), (3, .int x3)]) hx hb dX1_step_27 hl (by decide) rfl (fun ls hl => ?_)
  refine lv_iconst (v := 1) hx hb dX1_step_29 (by decide) ?_
  refine lv_istore (lv' := [(7, .int 1), (6, .int r_3), (5, .int r_2), (4, .int r_1), (0, .ref (E.2.2 + 158)), (1, .ref (E.2.2 + d)), (2, .int x2), (3, .int x3)]) hx hb dX1_step_30 hl (by decide) rfl (fun ls hl => ?_)
  refine lv_aload_n hx hb dX1_step_32 rfl (lv_at hl 4 rfl) ?_
  refine gx_getr (j := 3) S hK hw t_158 cl_2 0 (by decide) rfl mw_371 rfl dX1_step_33 ?_
  refine lv_iload hx hb dX1_step_36 (lv_at hl 3 rfl) ?_
  obtain ⟨r_4, σ_4, τ_4, q_4, h⟩ := bd_some h
  refine gx_cVi (As := [.int r_1]) (rest := []) S hK gx_ok hw (c_X8_kindOf l (E := E) N σ_3 τ_3 r_1 q_4) cw_X1_82 t_3 cl_9 ⟨Nat.le_of_ble_eq_true rfl, Nat.le_of_ble_eq_true rfl⟩ rfl hl.1 rfl (Nat.le_of_ble_eq_true rfl) ⟨Nat.le_of_ble_eq_true rfl, Nat.le_of_ble_eq_true rfl⟩ dX1_step_38 (fun r9 σ9 τ9 H locs hp hw => ?_)
  obtain ⟨rfl, rfl, rfl⟩ := hp
  by_cases c_5 : r_4 = 1
  · rw [if_pos c_5] at h
    refine gx_top (v := 1) c_5 ?_
    refine lv_tableIn (tgt := 80) hx hb dX1_step_41 (by decide) (by decide) rfl (by decide) ?_
    refine lv_aload_n hx hb dX1_step_80 rfl (lv_at hl 4 rfl) ?_
    refine lv_aload_n hx hb dX1_step_81 rfl (lv_at hl 5 rfl) ?_
    refine lv_iload_n hx hb dX1_step_82 rfl (lv_at hl 6 rfl) ?_
    refine lv_iload hx hb dX1_step_83 (lv_at hl 3 rfl) ?_
    refine lv_iload_n hx hb dX1_step_85 rfl (lv_at hl 7 rfl) ?_
    obtain ⟨r_6, σ_6, τ_6, q_6, h⟩ := bd_some h
    refine gx_cVi (As := [.ref (E.2.2 + d), .int x2, .int r_1, .int x3]) (rest := []) S hK gx_ok hw (c_X1_wayOf l (E := E) N d td σ_4 τ_4 x2 r_1 x3 q_6) cw_X1_85 t_158 cl_2 ⟨Nat.le_of_ble_eq_true rfl, Nat.le_of_ble_eq_true rfl⟩ rfl hl.1 rfl (Nat.le_of_ble_eq_true rfl) ⟨Nat.le_of_ble_eq_true rfl, Nat.le_of_ble_eq_true rfl⟩ dX1_step_86 (fun r9 σ9 τ9 H locs hp hw => ?_)
    obtain ⟨rfl, rfl, rfl⟩ := hp
    refine lv_istore (lv' := [(6, .int r_6), (7, .int 1), (5, .int r_2), (4, .int r_1), (0, .ref (E.2.2 + 158)), (1, .ref (E.2.2 + d)), (2, .int x2), (3, .int x3)]) hx hb dX1_step_89 hl (by decide) rfl (fun ls hl => ?_)
    refine lv_goto (tgt := 172) hx hb dX1_step_91 (by decide) ?_
    exact b_X1_step_172 l S hr hlk hK N d td σ_6 τ_6 x2 r_6 1 h hw (lv_sub hl [4, 5, 6, 0, 1] rfl)
  rw [if_neg c_5] at h
  by_cases c_7 : r_4 = 2
  · rw [if_pos c_7] at h
    refine gx_top (v := 2) c_7 ?_
    refine lv_tableIn (tgt := 94) hx hb dX1_step_41 (by decide) (by decide) rfl (by decide) ?_
    refine lv_iload hx hb dX1_step_94 (lv_at hl 0 rfl) ?_
    refine lv_iload hx hb dX1_step_96 (lv_at hl 2 rfl) ?_
    refine lv_iadd hx hb dX1_step_98 ?_
    refine lv_istore (lv' := [(7, .int (1 + r_2)), (6, .int r_3), (5, .int r_2), (4, .int r_1), (0, .ref (E.2.2 + 158)), (1, .ref (E.2.2 + d)), (2, .int x2), (3, .int x3)]) hx hb dX1_step_99 hl (by decide) rfl (fun ls hl => ?_)
    obtain ⟨v_8, e_8, h⟩ := nm_some h
    have hl : lv_has ls 9 [(7, .int v_8), (6, .int r_3), (5, .int r_2), (4, .int r_1), (0, .ref (E.2.2 + 158)), (1, .ref (E.2.2 + d)), (2, .int x2), (3, .int x3)] := by rw [e_8]; exact hl
    refine lv_goto (tgt := 172) hx hb dX1_step_101 (by decide) ?_
    exact b_X1_step_172 l S hr hlk hK N d td σ_4 τ_4 x2 r_3 v_8 h hw (lv_sub hl [4, 5, 6, 1, 0] rfl)
  rw [if_neg c_7] at h
  by_cases c_9 : r_4 = 3
  · rw [if_pos c_9] at h
    refine gx_top (v := 3) c_9 ?_
    refine lv_tableIn (tgt := 104) hx hb dX1_step_41 (by decide) (by decide) rfl (by decide) ?_
    refine lv_aload_n hx hb dX1_step_104 rfl (lv_at hl 4 rfl) ?_
    refine lv_aload_n hx hb dX1_step_105 rfl (lv_at hl 5 rfl) ?_
    refine lv_iload_n hx hb dX1_step_106 rfl (lv_at hl 6 rfl) ?_
    refine lv_iload hx hb dX1_step_107 (lv_at hl 2 rfl) ?_
    obtain ⟨r_10, σ_10, τ_10, q_10, h⟩ := bd_some h
    refine gx_cVi (As := [.ref (E.2.2 + d), .int x2, .int r_2]) (rest := []) S hK gx_ok hw (c_X1_pays l (E := E) N d td σ_4 τ_4 x2 r_2 q_10) cw_X1_89 t_158 cl_2 ⟨Nat.le_of_ble_eq_true rfl, Nat.le_of_ble_eq_true rfl⟩ rfl hl.1 rfl (Nat.le_of_ble_eq_true rfl) ⟨Nat.le_of_ble_eq_true rfl, Nat.le_of_ble_eq_true rfl⟩ dX1_step_109 (fun r9 σ9 τ9 H locs hp hw => ?_)
    obtain ⟨rfl, rfl, rfl⟩ := hp
    refine lv_if_ne (tgt := 172) hx hb dX1_step_112 (by decide) (fun c_11 => ?_) (fun c_11 => ?_)
    · rw [if_neg c_11] at h
      exact b_X1_step_172 l S hr hlk hK N d td σ_10 τ_10 x2 r_3 1 h hw (lv_sub hl [4, 5, 6, 1, 0] rfl)
    · rw [if_pos c_11] at h
      refine lv_iconst (v := 0) hx hb dX1_step_115 (by decide) ?_
      obtain ⟨rfl, rfl, rfl⟩ := sm_inj h
      exact gx_ri (post := gq_p 0 σ_10 τ_10) (v := 0) S hr hlk hw rfl dX1_step_116 ⟨rfl, rfl, rfl⟩
  rw [if_neg c_9] at h
  by_cases c_12 : r_4 = 4
  · rw [if_pos c_12] at h
    refine gx_top (v := 4) c_12 ?_
    refine lv_tableIn (tgt := 117) hx hb dX1_step_41 (by decide) (by decide) rfl (by decide) ?_
    refine lv_aload_n hx hb dX1_step_117 rfl (lv_at hl 5 rfl) ?_
    refine gx_get S hK hw td.1 cl_7 8 (by decide) rfl mw_279 rfl dX1_step_118 ?_
    refine lv_bipush (v := 10) hx hb dX1_step_121 (by decide) ?_
    refine lv_irem hx hb dX1_step_123 (by decide) ?_
    refine lv_istore (lv' := [(8, .int ((σ_4 d 8) - (σ_4 d 8) / 10 * 10)), (7, .int 1), (6, .int r_3), (5, .int r_2), (4, .int r_1), (0, .ref (E.2.2 + 158)), (1, .ref (E.2.2 + d)), (2, .int x2), (3, .int x3)]) hx hb dX1_step_124 hl (by decide) rfl (fun ls hl => ?_)
    obtain ⟨v_13, e_13, h⟩ := nm_some h
    have hl : lv_has ls 9 [(8, .int v_13), (7, .int 1), (6, .int r_3), (5, .int r_2), (4, .int r_1), (0, .ref (E.2.2 + 158)), (1, .ref (E.2.2 + d)), (2, .int x2), (3, .int x3)] := by rw [e_13]; exact hl
    refine lv_iload hx hb dX1_step_126 (lv_at hl 0 rfl) ?_
    refine lv_iload hx hb dX1_step_128 (lv_at hl 3 rfl) ?_
    refine lv_bipush (v := 10) hx hb dX1_step_130 (by decide) ?_
    refine lv_idiv hx hb dX1_step_132 (by decide) ?_
    refine lv_icmp_lt (tgt := 172) hx hb dX1_step_133 (by decide) (fun c_14 => ?_) (fun c_14 => ?_)
    · rw [if_pos c_14] at h
      exact b_X1_step_172 l S hr hlk hK N d td σ_4 τ_4 x2 r_3 1 h hw (lv_sub hl [5, 6, 7, 2, 1] rfl)
    · rw [if_neg c_14] at h
      refine lv_iload hx hb dX1_step_136 (lv_at hl 0 rfl) ?_
      refine lv_iload hx hb dX1_step_138 (lv_at hl 3 rfl) ?_
      refine lv_bipush (v := 10) hx hb dX1_step_140 (by decide) ?_
      refine lv_irem hx hb dX1_step_142 (by decide) ?_
      refine lv_icmp_gt (tgt := 172) hx hb dX1_step_143 (by decide) (fun c_15 => ?_) (fun c_15 => ?_)
      · rw [if_pos c_15] at h
        exact b_X1_step_172 l S hr hlk hK N d td σ_4 τ_4 x2 r_3 1 h hw (lv_sub hl [5, 6, 7, 2, 1] rfl)
      · rw [if_neg c_15] at h
        refine lv_aload_n hx hb dX1_step_146 rfl (lv_at hl 6 rfl) ?_
        refine lv_iload_n hx hb dX1_step_147 rfl (lv_at hl 7 rfl) ?_
        obtain ⟨u_16, σ_16, τ_16, q_16, h⟩ := bd_some h
        refine gx_cVv (As := [.int x2]) (rest := []) S hK gx_ok hw (c_X6_lose l (E := E) N d td σ_4 τ_4 x2 q_16) cw_X1_92 td.1 cl_7 ⟨Nat.le_of_ble_eq_true rfl, Nat.le_of_ble_eq_true rfl⟩ rfl hl.1 rfl (Nat.le_of_ble_eq_true rfl) ⟨Nat.le_of_ble_eq_true rfl, Nat.le_of_ble_eq_true rfl⟩ dX1_step_148 (fun σ9 τ9 H locs hp hw => ?_)
        obtain ⟨rfl, rfl⟩ := hp
        refine lv_iconst (v := 0) hx hb dX1_step_151 (by decide) ?_
        obtain ⟨rfl, rfl, rfl⟩ := sm_inj h
        exact gx_ri (post := gq_p 0 σ_16 τ_16) (v := 0) S hr hlk hw rfl dX1_step_152 ⟨rfl, rfl, rfl⟩
  rw [if_neg c_12] at h
  by_cases c_17 : r_4 = 5
  · rw [if_pos c_17] at h
    refine gx_top (v := 5) c_17 ?_
    refine lv_tableIn (tgt := 153) hx hb dX1_step_41 (by decide) (by decide) rfl (by decide) ?_
    refine lv_iload hx hb dX1_step_153 (lv_at hl 2 rfl) ?_
    refine lv_if_le (tgt := 168) hx hb dX1_step_155 (by decide) (fun c_18 => ?_) (fun c_18 => ?_)
    · rw [if_pos c_18] at h
      refine lv_iconst (v := 0) hx hb dX1_step_168 (by decide) ?_
      obtain ⟨rfl, rfl, rfl⟩ := sm_inj h
      exact gx_ri (post := gq_p 0 σ_4 τ_4) (v := 0) S hr hlk hw rfl dX1_step_169 ⟨rfl, rfl, rfl⟩
    · rw [if_neg c_18] at h
      refine lv_aload_n hx hb dX1_step_158 rfl (lv_at hl 5 rfl) ?_
      refine gx_get S hK hw td.1 cl_7 8 (by decide) rfl mw_279 rfl dX1_step_159 ?_
      refine lv_iload hx hb dX1_step_162 (lv_at hl 2 rfl) ?_
      obtain ⟨hz_19, h⟩ := dz_some h
      refine lv_irem hx hb dX1_step_164 hz_19 ?_
      refine lv_if_eq (tgt := 172) hx hb dX1_step_165 (by decide) (fun c_20 => ?_) (fun c_20 => ?_)
      · rw [if_pos c_20] at h
        exact b_X1_step_172 l S hr hlk hK N d td σ_4 τ_4 x2 r_3 1 h hw (lv_sub hl [4, 5, 6, 1, 0] rfl)
      · rw [if_neg c_20] at h
        refine lv_iconst (v := 0) hx hb dX1_step_168 (by decide) ?_
        obtain ⟨rfl, rfl, rfl⟩ := sm_inj h
        exact gx_ri (post := gq_p 0 σ_4 τ_4) (v := 0) S hr hlk hw rfl dX1_step_169 ⟨rfl, rfl, rfl⟩
  rw [if_neg c_17] at h
  by_cases c_21 : r_4 = 6
  · rw [if_pos c_21] at h
    refine gx_top (v := 6) c_21 ?_
    refine lv_tableIn (tgt := 170) hx hb dX1_step_41 (by decide) (by decide) rfl (by decide) ?_
    refine lv_iconst (v := 0) hx hb dX1_step_170 (by decide) ?_
    obtain ⟨rfl, rfl, rfl⟩ := sm_inj h
    exact gx_ri (post := gq_p 0 σ_4 τ_4) (v := 0) S hr hlk hw rfl dX1_step_171 ⟨rfl, rfl, rfl⟩
  rw [if_neg c_21] at h
  refine lv_tableOut (tgt := 172) hx hb dX1_step_41 (by have t_5 := lv_neT (a := 1) c_5 rfl; have t_7 := lv_neT (a := 2) c_7 rfl; have t_9 := lv_neT (a := 3) c_9 rfl; have t_12 := lv_neT (a := 4) c_12 rfl; have t_17 := lv_neT (a := 5) c_17 rfl; have t_21 := lv_neT (a := 6) c_21 rfl; omega) (by decide) ?_
  exact b_X1_step_172 l S hr hlk hK N d td σ_4 τ_4 x2 r_3 1 h hw (lv_sub hl [4, 5, 6, 1, 0] rfl)
set_option maxHeartbeats 4000000 in
set_option maxRecDepth 100000 in
theorem c_X1_step (l : Launch) {E : gE} (N : Nat) (d : Nat) (td : gx_isS d) (σ : gI) (τ : gJ) (x2 : Int32) (x3 : Int32) {r : Int32} {σ1 : gI} {τ1 : gJ} (h : B_X1_step_0 N d σ τ x2 x3 = some (r, σ1, τ1)) : gx_Mi l yX1_step cX1_step 9 (some .boolean) 2 gx_tb E σ τ [.ref (E.2.2 + 158), .ref (E.2.2 + d), .int x2, .int x3] (gq_p r σ1 τ1) := by
  refine gx_bi (by decide +kernel) (Nat.le_of_ble_eq_true rfl) ?_
  intro P9 e9 s m9 below meth C9 S hr hlk hK hw ls hl
  have hl : lv_has ls 9 [(0, .ref (E.2.2 + 158)), (1, .ref (E.2.2 + d)), (2, .int x2), (3, .int x3)] := hl
  exact b_X1_step_0 l S hr hlk hK N d td σ τ x2 x3 h hw hl
/-! X1_pass -/
def C_X1_pass_33 (N : Nat) (d : Nat) (rec_11 : gI → gJ → Int32 → Int32 → Option (Unit × gI × gJ)) (rec_33 : gI → gJ → Int32 → Int32 → Int32 → Int32 → Option (Unit × gI × gJ)) (σ : gI) (τ : gJ) (x2 : Int32) (x3 : Int32) (x4 : Int32) (x5 : Int32) : Option (Unit × gI × gJ) := if x2 ≤ x5 then (nm (x3 + 1) fun v_2 => rec_11 σ τ x2 v_2) else (if x4 = 0 then (nm (x3 + 1) fun v_4 => rec_11 σ τ x2 v_4) else (bd (B_X1_step_0 N d σ τ x3 x2) fun r_5 σ_5 τ_5 => nm (x5 + 1) fun v_6 => rec_33 σ_5 τ_5 x2 x3 r_5 v_6))
def H_X1_pass_33 (N : Nat) (d : Nat) (rec_11 : gI → gJ → Int32 → Int32 → Option (Unit × gI × gJ)) : Nat → gI → gJ → Int32 → Int32 → Int32 → Int32 → Option (Unit × gI × gJ) := itn (fun rec_33 => C_X1_pass_33 N d rec_11 rec_33) (fun _ _ _ _ _ _ => none)
def C_X1_pass_11 (N : Nat) (d : Nat) (rec_11 : gI → gJ → Int32 → Int32 → Option (Unit × gI × gJ)) (σ : gI) (τ : gJ) (x2 : Int32) (x3 : Int32) : Option (Unit × gI × gJ) := if σ d 6 ≤ x3 then (nm (up2 σ d 8 ((σ d 8) + 1)) fun σ_2 => some ((), σ_2, τ)) else (if x2 ≤ 0 then (nm (up2 σ d 8 ((σ d 8) + 1)) fun σ_4 => some ((), σ_4, τ)) else (bd (B_X6_isAfloat_0 N d σ τ x3) fun r_5 σ_5 τ_5 => H_X1_pass_33 N d rec_11 N σ_5 τ_5 x2 x3 r_5 0))
def H_X1_pass_11 (N : Nat) (d : Nat) : Nat → gI → gJ → Int32 → Int32 → Option (Unit × gI × gJ) := itn (fun rec_11 => C_X1_pass_11 N d rec_11) (fun _ _ _ _ => none)
def B_X1_pass_0 (N : Nat) (d : Nat) (σ : gI) (τ : gJ) : Option (Unit × gI × gJ) := bd (B_X1_flowIn_0 N σ τ (σ d 8)) fun r_1 σ_1 τ_1 => H_X1_pass_11 N d N σ_1 τ_1 r_1 0
set_option maxHeartbeats 4000000 in
set_option maxRecDepth 100000 in
theorem k_X1_pass_33 (l : Launch) (S : CallFix P9 m9 C9 cX1_pass 6 s av.toArray gx_G RX1) (hr : meth.sig.returnType = none) (hlk : meth.locks = false) (hK : gx_K E s) (N : Nat) (d : Nat) (td : gx_isS d) (rec_11 : gI → gJ → Int32 → Int32 → Option (Unit × gI × gJ)) (hrec_11 : ∀ (σ : gI) (τ : gJ) (x2 : Int32) (x3 : Int32) (r : Unit) (σ1 : gI) (τ1 : gJ) (H : Heap) (locs : List Loc) (ls : Array Slot), rec_11 σ τ x2 x3 = some (r, σ1, τ1) → gx_W gx_tb gx_tb.length E s σ τ H locs → lv_has ls 6 [(0, .ref (E.2.2 + 158)), (1, .ref (E.2.2 + d)), (2, .int x2), (3, .int x3)] → W P9 l e9 (gx_rm 3) s m9 av.toArray below meth C9 H locs 0 0 (gq_Qv below av s E σ1 τ1) (F0 m9 11 ls [])) (rec_33 : gI → gJ → Int32 → Int32 → Int32 → Int32 → Option (Unit × gI × gJ)) (hrec_33 : ∀ (σ : gI) (τ : gJ) (x2 : Int32) (x3 : Int32) (x4 : Int32) (x5 : Int32) (r : Unit) (σ1 : gI) (τ1 : gJ) (H : Heap) (locs : List Loc) (ls : Array Slot), rec_33 σ τ x2 x3 x4 x5 = some (r, σ1, τ1) → gx_W gx_tb gx_tb.length E s σ τ H locs → lv_has ls 6 [(0, .ref (E.2.2 + 158)), (1, .ref (E.2.2 + d)), (2, .int x2), (3, .int x3), (4, .int x4), (5, .int x5)] → W P9 l e9 (gx_rm 3) s m9 av.toArray below meth C9 H locs 0 0 (gq_Qv below av s E σ1 τ1) (F0 m9 33 ls [])) (σ : gI) (τ : gJ) (x2 : Int32) (x3 : Int32) (x4 : Int32) (x5 : Int32) {r : Unit} {σ1 : gI} {τ1 : gJ} (h : C_X1_pass_33 N d rec_11 rec_33 σ τ x2 x3 x4 x5 = some (r, σ1, τ1)) {H : Heap} {locs : List Loc} {ls : Array Slot} (hw : gx_W gx_tb gx_tb.length E s σ τ H locs) (hl : lv_has ls 6 [(0, .ref (E.2.2 + 158)), (1, .ref (E.2.2 + d)), (2, .int x2), (3, .int x3), (4, .int x4), (5, .int x5)]) : W P9 l e9 (gx_rm 3) s m9 av.toArray below meth C9 H locs 0 0 (gq_Qv below av s E σ1 τ1) (F0 m9 33 ls []) := by
  have hx := S.1
  have hb := S.2.1
  unfold C_X1_pass_33 at h
  refine lv_iload hx hb dX1_pass_33 (lv_at hl 5 rfl) ?_
  refine lv_iload_n hx hb dX1_pass_35 rfl (lv_at hl 2 rfl) ?_
  refine lv_icmp_ge (tgt := 59) hx hb dX1_pass_36 (by decide) (fun c_1 => ?_) (fun c_1 => ?_)
  · rw [if_pos c_1] at h
    refine lv_iinc (v := x3 + 1) (lv' := [(3, .int (x3 + 1)), (0, .ref (E.2.2 + 158)), (1, .ref (E.2.2 + d)), (2, .int x2), (4, .int x4), (5, .int x5)]) hx hb dX1_pass_59 hl (k := 3) rfl rfl (by decide) rfl (fun ls hl => ?_)
    obtain ⟨v_2, e_2, h⟩ := nm_some h
    have hl : lv_has ls 6 [(3, .int v_2), (0, .ref (E.2.2 + 158)), (1, .ref (E.2.2 + d)), (2, .int x2), (4, .int x4), (5, .int x5)] := by rw [e_2]; exact hl
    refine lv_goto (tgt := 11) hx hb dX1_pass_62 (by decide) ?_
    exact hrec_11 σ τ x2 v_2 _ _ _ _ _ _ h hw (lv_sub hl [1, 2, 3, 0] rfl)
  · rw [if_neg c_1] at h
    refine lv_iload hx hb dX1_pass_39 (lv_at hl 4 rfl) ?_
    refine lv_if_eq (tgt := 59) hx hb dX1_pass_41 (by decide) (fun c_3 => ?_) (fun c_3 => ?_)
    · rw [if_pos c_3] at h
      refine lv_iinc (v := x3 + 1) (lv' := [(3, .int (x3 + 1)), (0, .ref (E.2.2 + 158)), (1, .ref (E.2.2 + d)), (2, .int x2), (4, .int x4), (5, .int x5)]) hx hb dX1_pass_59 hl (k := 3) rfl rfl (by decide) rfl (fun ls hl => ?_)
      obtain ⟨v_4, e_4, h⟩ := nm_some h
      have hl : lv_has ls 6 [(3, .int v_4), (0, .ref (E.2.2 + 158)), (1, .ref (E.2.2 + d)), (2, .int x2), (4, .int x4), (5, .int x5)] := by rw [e_4]; exact hl
      refine lv_goto (tgt := 11) hx hb dX1_pass_62 (by decide) ?_
      exact hrec_11 σ τ x2 v_4 _ _ _ _ _ _ h hw (lv_sub hl [1, 2, 3, 0] rfl)
    · rw [if_neg c_3] at h
      refine lv_aload_n hx hb dX1_pass_44 rfl (lv_at hl 0 rfl) ?_
      refine lv_aload_n hx hb dX1_pass_45 rfl (lv_at hl 1 rfl) ?_
      refine lv_iload_n hx hb dX1_pass_46 rfl (lv_at hl 3 rfl) ?_
      refine lv_iload_n hx hb dX1_pass_47 rfl (lv_at hl 2 rfl) ?_
      obtain ⟨r_5, σ_5, τ_5, q_5, h⟩ := bd_some h
      refine gx_cVi (As := [.ref (E.2.2 + d), .int x3, .int x2]) (rest := []) S hK gx_ok hw (c_X1_step l (E := E) N d td σ τ x3 x2 q_5) cw_X1_67 t_158 cl_2 ⟨Nat.le_of_ble_eq_true rfl, Nat.le_of_ble_eq_true rfl⟩ rfl hl.1 rfl (Nat.le_of_ble_eq_true rfl) ⟨Nat.le_of_ble_eq_true rfl, Nat.le_of_ble_eq_true rfl⟩ dX1_pass_48 (fun r9 σ9 τ9 H locs hp hw => ?_)
      obtain ⟨rfl, rfl, rfl⟩ := hp
      refine lv_istore (lv' := [(4, .int r_5), (0, .ref (E.2.2 + 158)), (1, .ref (E.2.2 + d)), (2, .int x2), (3, .int x3), (5, .int x5)]) hx hb dX1_pass_51 hl (by decide) rfl (fun ls hl => ?_)
      refine lv_iinc (v := x5 + 1) (lv' := [(5, .int (x5 + 1)), (4, .int r_5), (0, .ref (E.2.2 + 158)), (1, .ref (E.2.2 + d)), (2, .int x2), (3, .int x3)]) hx hb dX1_pass_53 hl (k := 5) rfl rfl (by decide) rfl (fun ls hl => ?_)
      obtain ⟨v_6, e_6, h⟩ := nm_some h
      have hl : lv_has ls 6 [(5, .int v_6), (4, .int r_5), (0, .ref (E.2.2 + 158)), (1, .ref (E.2.2 + d)), (2, .int x2), (3, .int x3)] := by rw [e_6]; exact hl
      refine lv_goto (tgt := 33) hx hb dX1_pass_56 (by decide) ?_
      exact hrec_33 σ_5 τ_5 x2 x3 r_5 v_6 _ _ _ _ _ _ h hw (lv_sub hl [2, 3, 4, 5, 1, 0] rfl)
set_option maxHeartbeats 4000000 in
set_option maxRecDepth 100000 in
theorem h_X1_pass_33 (l : Launch) (S : CallFix P9 m9 C9 cX1_pass 6 s av.toArray gx_G RX1) (hr : meth.sig.returnType = none) (hlk : meth.locks = false) (hK : gx_K E s) (N : Nat) (d : Nat) (td : gx_isS d) (rec_11 : gI → gJ → Int32 → Int32 → Option (Unit × gI × gJ)) (hrec_11 : ∀ (σ : gI) (τ : gJ) (x2 : Int32) (x3 : Int32) (r : Unit) (σ1 : gI) (τ1 : gJ) (H : Heap) (locs : List Loc) (ls : Array Slot), rec_11 σ τ x2 x3 = some (r, σ1, τ1) → gx_W gx_tb gx_tb.length E s σ τ H locs → lv_has ls 6 [(0, .ref (E.2.2 + 158)), (1, .ref (E.2.2 + d)), (2, .int x2), (3, .int x3)] → W P9 l e9 (gx_rm 3) s m9 av.toArray below meth C9 H locs 0 0 (gq_Qv below av s E σ1 τ1) (F0 m9 11 ls [])) : ∀ (n : Nat) (σ : gI) (τ : gJ) (x2 : Int32) (x3 : Int32) (x4 : Int32) (x5 : Int32) (r : Unit) (σ1 : gI) (τ1 : gJ), H_X1_pass_33 N d rec_11 n σ τ x2 x3 x4 x5 = some (r, σ1, τ1) → ∀ (H : Heap) (locs : List Loc) (ls : Array Slot), gx_W gx_tb gx_tb.length E s σ τ H locs → lv_has ls 6 [(0, .ref (E.2.2 + 158)), (1, .ref (E.2.2 + d)), (2, .int x2), (3, .int x3), (4, .int x4), (5, .int x5)] → W P9 l e9 (gx_rm 3) s m9 av.toArray below meth C9 H locs 0 0 (gq_Qv below av s E σ1 τ1) (F0 m9 33 ls []) := by
  intro n
  induction n with
  | zero => intro σ τ x2 x3 x4 x5 r σ1 τ1 h; cases h
  | succ n ih =>
    intro σ τ x2 x3 x4 x5 r σ1 τ1 h H locs ls hw hl
    exact k_X1_pass_33 l S hr hlk hK N d td rec_11 hrec_11 (H_X1_pass_33 N d rec_11 n) (fun σ τ x2 x3 x4 x5 r σ1 τ1 H locs ls h hw hl => ih σ τ x2 x3 x4 x5 r σ1 τ1 h H locs ls hw hl) σ τ x2 x3 x4 x5 h hw hl
set_option maxHeartbeats 4000000 in
set_option maxRecDepth 100000 in
theorem k_X1_pass_11 (l : Launch) (S : CallFix P9 m9 C9 cX1_pass 6 s av.toArray gx_G RX1) (hr : meth.sig.returnType = none) (hlk : meth.locks = false) (hK : gx_K E s) (N : Nat) (d : Nat) (td : gx_isS d) (rec_11 : gI → gJ → Int32 → Int32 → Option (Unit × gI × gJ)) (hrec_11 : ∀ (σ : gI) (τ : gJ) (x2 : Int32) (x3 : Int32) (r : Unit) (σ1 : gI) (τ1 : gJ) (H : Heap) (locs : List Loc) (ls : Array Slot), rec_11 σ τ x2 x3 = some (r, σ1, τ1) → gx_W gx_tb gx_tb.length E s σ τ H locs → lv_has ls 6 [(0, .ref (E.2.2 + 158)), (1, .ref (E.2.2 + d)), (2, .int x2), (3, .int x3)] → W P9 l e9 (gx_rm 3) s m9 av.toArray below meth C9 H locs 0 0 (gq_Qv below av s E σ1 τ1) (F0 m9 11 ls [])) (σ : gI) (τ : gJ) (x2 : Int32) (x3 : Int32) {r : Unit} {σ1 : gI} {τ1 : gJ} (h : C_X1_pass_11 N d rec_11 σ τ x2 x3 = some (r, σ1, τ1)) {H : Heap} {locs : List Loc} {ls : Array Slot} (hw : gx_W gx_tb gx_tb.length E s σ τ H locs) (hl : lv_has ls 6 [(0, .ref (E.2.2 + 158)), (1, .ref (E.2.2 + d)), (2, .int x2), (3, .int x3)]) : W P9 l e9 (gx_rm 3) s m9 av.toArray below meth C9 H locs 0 0 (gq_Qv below av s E σ1 τ1) (F0 m9 11 ls []) := by
  have hx := S.1
  have hb := S.2.1
  unfold C_X1_pass_11 at h
  refine lv_iload_n hx hb dX1_pass_11 rfl (lv_at hl 3 rfl) ?_
  refine lv_aload_n hx hb dX1_pass_12 rfl (lv_at hl 1 rfl) ?_
  refine gx_get S hK hw td.1 cl_7 6 (by decide) rfl mw_271 rfl dX1_pass_13 ?_
  refine lv_icmp_ge (tgt := 65) hx hb dX1_pass_16 (by decide) (fun c_1 => ?_) (fun c_1 => ?_)
  · rw [if_pos c_1] at h
    refine lv_aload_n hx hb dX1_pass_65 rfl (lv_at hl 1 rfl) ?_
    refine lv_dup hx hb dX1_pass_66 rfl ?_
    refine gx_get S hK hw td.1 cl_7 8 (by decide) rfl mw_279 rfl dX1_pass_67 ?_
    refine lv_iconst (v := 1) hx hb dX1_pass_70 (by decide) ?_
    refine lv_iadd hx hb dX1_pass_71 ?_
    refine gx_put S hK gx_ok hw td.1 cl_7 8 (by decide) rfl mw_279 rfl rfl (ty := .int) (v := (σ d 8) + 1) (by decide +kernel) rfl rfl dX1_pass_72 (fun H locs hw => ?_)
    obtain ⟨σ_2, e_2, h⟩ := nm_some h
    rw [← e_2] at hw
    obtain ⟨-, rfl, rfl⟩ := sm_inj h
    exact gx_rv (post := gq_v σ_2 τ) S hr hlk hw dX1_pass_75 ⟨rfl, rfl⟩
  · rw [if_neg c_1] at h
    refine lv_iload_n hx hb dX1_pass_19 rfl (lv_at hl 2 rfl) ?_
    refine lv_if_le (tgt := 65) hx hb dX1_pass_20 (by decide) (fun c_3 => ?_) (fun c_3 => ?_)
    · rw [if_pos c_3] at h
      refine lv_aload_n hx hb dX1_pass_65 rfl (lv_at hl 1 rfl) ?_
      refine lv_dup hx hb dX1_pass_66 rfl ?_
      refine gx_get S hK hw td.1 cl_7 8 (by decide) rfl mw_279 rfl dX1_pass_67 ?_
      refine lv_iconst (v := 1) hx hb dX1_pass_70 (by decide) ?_
      refine lv_iadd hx hb dX1_pass_71 ?_
      refine gx_put S hK gx_ok hw td.1 cl_7 8 (by decide) rfl mw_279 rfl rfl (ty := .int) (v := (σ d 8) + 1) (by decide +kernel) rfl rfl dX1_pass_72 (fun H locs hw => ?_)
      obtain ⟨σ_4, e_4, h⟩ := nm_some h
      rw [← e_4] at hw
      obtain ⟨-, rfl, rfl⟩ := sm_inj h
      exact gx_rv (post := gq_v σ_4 τ) S hr hlk hw dX1_pass_75 ⟨rfl, rfl⟩
    · rw [if_neg c_3] at h
      refine lv_aload_n hx hb dX1_pass_23 rfl (lv_at hl 1 rfl) ?_
      refine lv_iload_n hx hb dX1_pass_24 rfl (lv_at hl 3 rfl) ?_
      obtain ⟨r_5, σ_5, τ_5, q_5, h⟩ := bd_some h
      refine gx_cVi (As := [.int x3]) (rest := []) S hK gx_ok hw (c_X6_isAfloat l (E := E) N d td σ τ x3 q_5) cw_X1_63 td.1 cl_7 ⟨Nat.le_of_ble_eq_true rfl, Nat.le_of_ble_eq_true rfl⟩ rfl hl.1 rfl (Nat.le_of_ble_eq_true rfl) ⟨Nat.le_of_ble_eq_true rfl, Nat.le_of_ble_eq_true rfl⟩ dX1_pass_25 (fun r9 σ9 τ9 H locs hp hw => ?_)
      obtain ⟨rfl, rfl, rfl⟩ := hp
      refine lv_istore (lv' := [(4, .int r_5), (0, .ref (E.2.2 + 158)), (1, .ref (E.2.2 + d)), (2, .int x2), (3, .int x3)]) hx hb dX1_pass_28 hl (by decide) rfl (fun ls hl => ?_)
      refine lv_iconst (v := 0) hx hb dX1_pass_30 (by decide) ?_
      refine lv_istore (lv' := [(5, .int 0), (4, .int r_5), (0, .ref (E.2.2 + 158)), (1, .ref (E.2.2 + d)), (2, .int x2), (3, .int x3)]) hx hb dX1_pass_31 hl (by decide) rfl (fun ls hl => ?_)
      exact h_X1_pass_33 l S hr hlk hK N d td rec_11 hrec_11 N σ_5 τ_5 x2 x3 r_5 0 _ _ _ h _ _ _ hw (lv_sub hl [2, 3, 4, 5, 1, 0] rfl)
set_option maxHeartbeats 4000000 in
set_option maxRecDepth 100000 in
theorem h_X1_pass_11 (l : Launch) (S : CallFix P9 m9 C9 cX1_pass 6 s av.toArray gx_G RX1) (hr : meth.sig.returnType = none) (hlk : meth.locks = false) (hK : gx_K E s) (N : Nat) (d : Nat) (td : gx_isS d) : ∀ (n : Nat) (σ : gI) (τ : gJ) (x2 : Int32) (x3 : Int32) (r : Unit) (σ1 : gI) (τ1 : gJ), H_X1_pass_11 N d n σ τ x2 x3 = some (r, σ1, τ1) → ∀ (H : Heap) (locs : List Loc) (ls : Array Slot), gx_W gx_tb gx_tb.length E s σ τ H locs → lv_has ls 6 [(0, .ref (E.2.2 + 158)), (1, .ref (E.2.2 + d)), (2, .int x2), (3, .int x3)] → W P9 l e9 (gx_rm 3) s m9 av.toArray below meth C9 H locs 0 0 (gq_Qv below av s E σ1 τ1) (F0 m9 11 ls []) := by
  intro n
  induction n with
  | zero => intro σ τ x2 x3 r σ1 τ1 h; cases h
  | succ n ih =>
    intro σ τ x2 x3 r σ1 τ1 h H locs ls hw hl
    exact k_X1_pass_11 l S hr hlk hK N d td (H_X1_pass_11 N d n) (fun σ τ x2 x3 r σ1 τ1 H locs ls h hw hl => ih σ τ x2 x3 r σ1 τ1 h H locs ls hw hl) σ τ x2 x3 h hw hl
set_option maxHeartbeats 4000000 in
set_option maxRecDepth 100000 in
theorem b_X1_pass_0 (l : Launch) (S : CallFix P9 m9 C9 cX1_pass 6 s av.toArray gx_G RX1) (hr : meth.sig.returnType = none) (hlk : meth.locks = false) (hK : gx_K E s) (N : Nat) (d : Nat) (td : gx_isS d) (σ : gI) (τ : gJ) {r : Unit} {σ1 : gI} {τ1 : gJ} (h : B_X1_pass_0 N d σ τ = some (r, σ1, τ1)) {H : Heap} {locs : List Loc} {ls : Array Slot} (hw : gx_W gx_tb gx_tb.length E s σ τ H locs) (hl : lv_has ls 6 [(0, .ref (E.2.2 + 158)), (1, .ref (E.2.2 + d))]) : W P9 l e9 (gx_rm 3) s m9 av.toArray below meth C9 H locs 0 0 (gq_Qv below av s E σ1 τ1) (F0 m9 0 ls []) := by
  have hx := S.1
  have hb := S.2.1
  unfold B_X1_pass_0 at h
  refine lv_aload_n hx hb dX1_pass_0 rfl (lv_at hl 0 rfl) ?_
  refine lv_aload_n hx hb dX1_pass_1 rfl (lv_at hl 1 rfl) ?_
  refine gx_get S hK hw td.1 cl_7 8 (by decide) rfl mw_279 rfl dX1_pass_2 ?_
  obtain ⟨r_1, σ_1, τ_1, q_1, h⟩ := bd_some h
  refine gx_cVi (As := [.int (σ d 8)]) (rest := []) S hK gx_ok hw (c_X1_flowIn l (E := E) N σ τ (σ d 8) q_1) cw_X1_57 t_158 cl_2 ⟨Nat.le_of_ble_eq_true rfl, Nat.le_of_ble_eq_true rfl⟩ rfl hl.1 rfl (Nat.le_of_ble_eq_true rfl) ⟨Nat.le_of_ble_eq_true rfl, Nat.le_of_ble_eq_true rfl⟩ dX1_pass_5 (fun r9 σ9 τ9 H locs hp hw => ?_)
  obtain ⟨rfl, rfl, rfl⟩ := hp
  refine lv_istore_n (lv' := [(2, .int r_1), (0, .ref (E.2.2 + 158)), (1, .ref (E.2.2 + d))]) hx hb dX1_pass_8 rfl hl (by decide) rfl (fun ls hl => ?_)
  refine lv_iconst (v := 0) hx hb dX1_pass_9 (by decide) ?_
  refine lv_istore_n (lv' := [(3, .int 0), (2, .int r_1), (0, .ref (E.2.2 + 158)), (1, .ref (E.2.2 + d))]) hx hb dX1_pass_10 rfl hl (by decide) rfl (fun ls hl => ?_)
  exact h_X1_pass_11 l S hr hlk hK N d td N σ_1 τ_1 r_1 0 _ _ _ h _ _ _ hw (lv_sub hl [2, 3, 1, 0] rfl)
set_option maxHeartbeats 4000000 in
set_option maxRecDepth 100000 in
theorem c_X1_pass (l : Launch) {E : gE} (N : Nat) (d : Nat) (td : gx_isS d) (σ : gI) (τ : gJ) {r : Unit} {σ1 : gI} {τ1 : gJ} (h : B_X1_pass_0 N d σ τ = some (r, σ1, τ1)) : gx_Mv l yX1_pass cX1_pass 6 none 3 gx_tb E σ τ [.ref (E.2.2 + 158), .ref (E.2.2 + d)] (gq_v σ1 τ1) := by
  refine gx_bv (by decide +kernel) (Nat.le_of_ble_eq_true rfl) ?_
  intro P9 e9 s m9 below meth C9 S hr hlk hK hw ls hl
  have hl : lv_has ls 6 [(0, .ref (E.2.2 + 158)), (1, .ref (E.2.2 + d))] := hl
  exact b_X1_pass_0 l S hr hlk hK N d td σ τ h hw hl
/-! X9_go -/
def C_X9_go_7 (N : Nat) (rec_7 : gI → gJ → Int32 → Option (Int32 × gI × gJ)) (σ : gI) (τ : gJ) (x2 : Int32) : Option (Int32 × gI × gJ) := if 300 < x2 then (some ((-1), σ, τ)) else (if ((σ 171 10) ||| (σ 158 5)) &&& (σ 160 5) = 0 then (if (σ 171 9) &&& (σ 160 5) = σ 160 5 then (bd (B_X6_spotOf_0 N 171 σ τ (σ 160 6)) fun r_8 σ_8 τ_8 => some ((x2 * 16) + (imax 0 r_8), σ_8, τ_8)) else (if 300 ≤ x2 then (nm (x2 + 1) fun v_5 => rec_7 σ τ v_5) else (bd (B_X1_pass_0 N 171 σ τ) fun _ σ_6 τ_6 => nm (x2 + 1) fun v_7 => rec_7 σ_6 τ_6 v_7))) else (some ((-1), σ, τ)))
def H_X9_go_7 (N : Nat) : Nat → gI → gJ → Int32 → Option (Int32 × gI × gJ) := itn (fun rec_7 => C_X9_go_7 N rec_7) (fun _ _ _ => none)
def B_X9_go_0 (N : Nat) (σ : gI) (τ : gJ) (x1 : Int32) : Option (Int32 × gI × gJ) := bd (B_X9_begin_0 N σ τ x1) fun _ σ_1 τ_1 => H_X9_go_7 N N σ_1 τ_1 0
set_option maxHeartbeats 4000000 in
set_option maxRecDepth 100000 in
theorem k_X9_go_7 (l : Launch) (S : CallFix P9 m9 C9 cX9_go 3 s av.toArray gx_G RX9) (hr : meth.sig.returnType = (some .int)) (hlk : meth.locks = false) (hK : gx_K E s) (N : Nat) (rec_7 : gI → gJ → Int32 → Option (Int32 × gI × gJ)) (hrec_7 : ∀ (σ : gI) (τ : gJ) (x2 : Int32) (r : Int32) (σ1 : gI) (τ1 : gJ) (H : Heap) (locs : List Loc) (ls : Array Slot), rec_7 σ τ x2 = some (r, σ1, τ1) → gx_W gx_tb gx_tb.length E s σ τ H locs → lv_has ls 3 [(0, .ref (E.2.2 + 160)), (2, .int x2)] → W P9 l e9 (gx_rm 4) s m9 av.toArray below meth C9 H locs 0 0 (gq_Qi below av s E r σ1 τ1) (F0 m9 7 ls [])) (σ : gI) (τ : gJ) (x2 : Int32) {r : Int32} {σ1 : gI} {τ1 : gJ} (h : C_X9_go_7 N rec_7 σ τ x2 = some (r, σ1, τ1)) {H : Heap} {locs : List Loc} {ls : Array Slot} (hw : gx_W gx_tb gx_tb.length E s σ τ H locs) (hl : lv_has ls 3 [(0, .ref (E.2.2 + 160)), (2, .int x2)]) : W P9 l e9 (gx_rm 4) s m9 av.toArray below meth C9 H locs 0 0 (gq_Qi below av s E r σ1 τ1) (F0 m9 7 ls []) := by
  have hx := S.1
  have hb := S.2.1
  unfold C_X9_go_7 at h
  refine lv_iload_n hx hb dX9_go_7 rfl (lv_at hl 1 rfl) ?_
  refine lv_sipush (v := 300) hx hb dX9_go_8 (by decide) ?_
  refine lv_icmp_gt (tgt := 103) hx hb dX9_go_11 (by decide) (fun c_1 => ?_) (fun c_1 => ?_)
  · rw [if_pos c_1] at h
    refine lv_iconst (v := (-1)) hx hb dX9_go_103 (by decide) ?_
    obtain ⟨rfl, rfl, rfl⟩ := sm_inj h
    exact gx_ri (post := gq_p (-1) σ τ) (v := (-1)) S hr hlk hw rfl dX9_go_104 ⟨rfl, rfl, rfl⟩
  · rw [if_neg c_1] at h
    refine lv_aload_n hx hb dX9_go_14 rfl (lv_at hl 0 rfl) ?_
    refine gx_getr (j := 171) S hK hw t_160 cl_10 8 (by decide) rfl mw_425 rfl dX9_go_15 ?_
    refine gx_get S hK hw t_171 cl_7 10 (by decide) rfl mw_285 rfl dX9_go_18 ?_
    refine lv_aload_n hx hb dX9_go_21 rfl (lv_at hl 0 rfl) ?_
    refine gx_getr (j := 158) S hK hw t_160 cl_10 1 (by decide) rfl mw_417 rfl dX9_go_22 ?_
    refine gx_get S hK hw t_158 cl_2 5 (by decide) rfl mw_377 rfl dX9_go_25 ?_
    refine lv_ior hx hb dX9_go_28 ?_
    refine lv_aload_n hx hb dX9_go_29 rfl (lv_at hl 0 rfl) ?_
    refine gx_get S hK hw t_160 cl_10 5 (by decide) rfl mw_421 rfl dX9_go_30 ?_
    refine lv_iand hx hb dX9_go_33 ?_
    refine lv_if_eq (tgt := 39) hx hb dX9_go_34 (by decide) (fun c_2 => ?_) (fun c_2 => ?_)
    · rw [if_pos c_2] at h
      refine lv_aload_n hx hb dX9_go_39 rfl (lv_at hl 0 rfl) ?_
      refine gx_getr (j := 171) S hK hw t_160 cl_10 8 (by decide) rfl mw_425 rfl dX9_go_40 ?_
      refine gx_get S hK hw t_171 cl_7 9 (by decide) rfl mw_282 rfl dX9_go_43 ?_
      refine lv_aload_n hx hb dX9_go_46 rfl (lv_at hl 0 rfl) ?_
      refine gx_get S hK hw t_160 cl_10 5 (by decide) rfl mw_421 rfl dX9_go_47 ?_
      refine lv_iand hx hb dX9_go_50 ?_
      refine lv_aload_n hx hb dX9_go_51 rfl (lv_at hl 0 rfl) ?_
      refine gx_get S hK hw t_160 cl_10 5 (by decide) rfl mw_421 rfl dX9_go_52 ?_
      refine lv_icmp_ne (tgt := 79) hx hb dX9_go_55 (by decide) (fun c_3 => ?_) (fun c_3 => ?_)
      · rw [if_neg c_3] at h
        refine lv_iload_n hx hb dX9_go_79 rfl (lv_at hl 1 rfl) ?_
        refine lv_sipush (v := 300) hx hb dX9_go_80 (by decide) ?_
        refine lv_icmp_ge (tgt := 97) hx hb dX9_go_83 (by decide) (fun c_4 => ?_) (fun c_4 => ?_)
        · rw [if_pos c_4] at h
          refine lv_iinc (v := x2 + 1) (lv' := [(2, .int (x2 + 1)), (0, .ref (E.2.2 + 160))]) hx hb dX9_go_97 hl (k := 1) rfl rfl (by decide) rfl (fun ls hl => ?_)
          obtain ⟨v_5, e_5, h⟩ := nm_some h
          have hl : lv_has ls 3 [(2, .int v_5), (0, .ref (E.2.2 + 160))] := by rw [e_5]; exact hl
          refine lv_goto (tgt := 7) hx hb dX9_go_100 (by decide) ?_
          exact hrec_7 σ τ v_5 _ _ _ _ _ _ h hw (lv_sub hl [1, 0] rfl)
        · rw [if_neg c_4] at h
          refine lv_aload_n hx hb dX9_go_86 rfl (lv_at hl 0 rfl) ?_
          refine gx_getr (j := 158) S hK hw t_160 cl_10 1 (by decide) rfl mw_417 rfl dX9_go_87 ?_
          refine lv_aload_n hx hb dX9_go_90 rfl (lv_at hl 0 rfl) ?_
          refine gx_getr (j := 171) S hK hw t_160 cl_10 8 (by decide) rfl mw_425 rfl dX9_go_91 ?_
          obtain ⟨u_6, σ_6, τ_6, q_6, h⟩ := bd_some h
          refine gx_cVv (As := [.ref (E.2.2 + 171)]) (rest := []) S hK gx_ok hw (c_X1_pass l (E := E) N 171 is_171 σ τ q_6) cw_X9_105 t_158 cl_2 ⟨Nat.le_of_ble_eq_true rfl, Nat.le_of_ble_eq_true rfl⟩ rfl hl.1 rfl (Nat.le_of_ble_eq_true rfl) ⟨Nat.le_of_ble_eq_true rfl, Nat.le_of_ble_eq_true rfl⟩ dX9_go_94 (fun σ9 τ9 H locs hp hw => ?_)
          obtain ⟨rfl, rfl⟩ := hp
          refine lv_iinc (v := x2 + 1) (lv' := [(2, .int (x2 + 1)), (0, .ref (E.2.2 + 160))]) hx hb dX9_go_97 hl (k := 1) rfl rfl (by decide) rfl (fun ls hl => ?_)
          obtain ⟨v_7, e_7, h⟩ := nm_some h
          have hl : lv_has ls 3 [(2, .int v_7), (0, .ref (E.2.2 + 160))] := by rw [e_7]; exact hl
          refine lv_goto (tgt := 7) hx hb dX9_go_100 (by decide) ?_
          exact hrec_7 σ_6 τ_6 v_7 _ _ _ _ _ _ h hw (lv_sub hl [1, 0] rfl)
      · rw [if_pos c_3] at h
        refine lv_iload_n hx hb dX9_go_58 rfl (lv_at hl 1 rfl) ?_
        refine lv_bipush (v := 16) hx hb dX9_go_59 (by decide) ?_
        refine lv_imul hx hb dX9_go_61 ?_
        refine lv_iconst (v := 0) hx hb dX9_go_62 (by decide) ?_
        refine lv_aload_n hx hb dX9_go_63 rfl (lv_at hl 0 rfl) ?_
        refine gx_getr (j := 171) S hK hw t_160 cl_10 8 (by decide) rfl mw_425 rfl dX9_go_64 ?_
        refine lv_aload_n hx hb dX9_go_67 rfl (lv_at hl 0 rfl) ?_
        refine gx_get S hK hw t_160 cl_10 6 (by decide) rfl mw_422 rfl dX9_go_68 ?_
        obtain ⟨r_8, σ_8, τ_8, q_8, h⟩ := bd_some h
        refine gx_cVi (As := [.int (σ 160 6)]) (rest := [.int 0, .int (x2 * 16)]) S hK gx_ok hw (c_X6_spotOf l (E := E) N 171 is_171 σ τ (σ 160 6) q_8) cw_X9_95 t_171 cl_7 ⟨Nat.le_of_ble_eq_true rfl, Nat.le_of_ble_eq_true rfl⟩ rfl hl.1 rfl (Nat.le_of_ble_eq_true rfl) ⟨Nat.le_of_ble_eq_true rfl, Nat.le_of_ble_eq_true rfl⟩ dX9_go_71 (fun r9 σ9 τ9 H locs hp hw => ?_)
        obtain ⟨rfl, rfl, rfl⟩ := hp
        refine gx_max (w := imax 0 r_8) S hl.1 mw_1097 mw_577 mw_102 mw_578 ⟨Nat.le_of_ble_eq_true rfl, Nat.le_of_ble_eq_true rfl⟩ ⟨Nat.le_of_ble_eq_true rfl, Nat.le_of_ble_eq_true rfl⟩ dX9_go_74 rfl ?_
        refine lv_iadd hx hb dX9_go_77 ?_
        obtain ⟨rfl, rfl, rfl⟩ := sm_inj h
        exact gx_ri (post := gq_p ((x2 * 16) + (imax 0 r_8)) σ_8 τ_8) (v := (x2 * 16) + (imax 0 r_8)) S hr hlk hw rfl dX9_go_78 ⟨rfl, rfl, rfl⟩
    · rw [if_neg c_2] at h
      refine lv_iconst (v := (-1)) hx hb dX9_go_37 (by decide) ?_
      obtain ⟨rfl, rfl, rfl⟩ := sm_inj h
      exact gx_ri (post := gq_p (-1) σ τ) (v := (-1)) S hr hlk hw rfl dX9_go_38 ⟨rfl, rfl, rfl⟩
set_option maxHeartbeats 4000000 in
set_option maxRecDepth 100000 in
theorem h_X9_go_7 (l : Launch) (S : CallFix P9 m9 C9 cX9_go 3 s av.toArray gx_G RX9) (hr : meth.sig.returnType = (some .int)) (hlk : meth.locks = false) (hK : gx_K E s) (N : Nat) : ∀ (n : Nat) (σ : gI) (τ : gJ) (x2 : Int32) (r : Int32) (σ1 : gI) (τ1 : gJ), H_X9_go_7 N n σ τ x2 = some (r, σ1, τ1) → ∀ (H : Heap) (locs : List Loc) (ls : Array Slot), gx_W gx_tb gx_tb.length E s σ τ H locs → lv_has ls 3 [(0, .ref (E.2.2 + 160)), (2, .int x2)] → W P9 l e9 (gx_rm 4) s m9 av.toArray below meth C9 H locs 0 0 (gq_Qi below av s E r σ1 τ1) (F0 m9 7 ls []) := by
  intro n
  induction n with
  | zero => intro σ τ x2 r σ1 τ1 h; cases h
  | succ n ih =>
    intro σ τ x2 r σ1 τ1 h H locs ls hw hl
    exact k_X9_go_7 l S hr hlk hK N (H_X9_go_7 N n) (fun σ τ x2 r σ1 τ1 H locs ls h hw hl => ih σ τ x2 r σ1 τ1 h H locs ls hw hl) σ τ x2 h hw hl
set_option maxHeartbeats 4000000 in
set_option maxRecDepth 100000 in
theorem b_X9_go_0 (l : Launch) (S : CallFix P9 m9 C9 cX9_go 3 s av.toArray gx_G RX9) (hr : meth.sig.returnType = (some .int)) (hlk : meth.locks = false) (hK : gx_K E s) (N : Nat) (σ : gI) (τ : gJ) (x1 : Int32) {r : Int32} {σ1 : gI} {τ1 : gJ} (h : B_X9_go_0 N σ τ x1 = some (r, σ1, τ1)) {H : Heap} {locs : List Loc} {ls : Array Slot} (hw : gx_W gx_tb gx_tb.length E s σ τ H locs) (hl : lv_has ls 3 [(0, .ref (E.2.2 + 160)), (1, .int x1)]) : W P9 l e9 (gx_rm 4) s m9 av.toArray below meth C9 H locs 0 0 (gq_Qi below av s E r σ1 τ1) (F0 m9 0 ls []) := by
  have hx := S.1
  have hb := S.2.1
  unfold B_X9_go_0 at h
  refine lv_aload_n hx hb dX9_go_0 rfl (lv_at hl 0 rfl) ?_
  refine lv_iload_n hx hb dX9_go_1 rfl (lv_at hl 1 rfl) ?_
  obtain ⟨u_1, σ_1, τ_1, q_1, h⟩ := bd_some h
  refine gx_cVv (As := [.int x1]) (rest := []) S hK gx_ok hw (c_X9_begin l (E := E) N σ τ x1 q_1) cw_X9_86 t_160 cl_10 ⟨Nat.le_of_ble_eq_true rfl, Nat.le_of_ble_eq_true rfl⟩ rfl hl.1 rfl (Nat.le_of_ble_eq_true rfl) ⟨Nat.le_of_ble_eq_true rfl, Nat.le_of_ble_eq_true rfl⟩ dX9_go_2 (fun σ9 τ9 H locs hp hw => ?_)
  obtain ⟨rfl, rfl⟩ := hp
  refine lv_iconst (v := 0) hx hb dX9_go_5 (by decide) ?_
  refine lv_istore_n (lv' := [(2, .int 0), (0, .ref (E.2.2 + 160)), (1, .int x1)]) hx hb dX9_go_6 rfl hl (by decide) rfl (fun ls hl => ?_)
  exact h_X9_go_7 l S hr hlk hK N N σ_1 τ_1 0 _ _ _ h _ _ _ hw (lv_sub hl [1, 0] rfl)
set_option maxHeartbeats 4000000 in
set_option maxRecDepth 100000 in
theorem c_X9_go (l : Launch) {E : gE} (N : Nat) (σ : gI) (τ : gJ) (x1 : Int32) {r : Int32} {σ1 : gI} {τ1 : gJ} (h : B_X9_go_0 N σ τ x1 = some (r, σ1, τ1)) : gx_Mi l yX9_go cX9_go 3 (some .int) 4 gx_tb E σ τ [.ref (E.2.2 + 160), .int x1] (gq_p r σ1 τ1) := by
  refine gx_bi (by decide +kernel) (Nat.le_of_ble_eq_true rfl) ?_
  intro P9 e9 s m9 below meth C9 S hr hlk hK hw ls hl
  have hl : lv_has ls 3 [(0, .ref (E.2.2 + 160)), (1, .int x1)] := hl
  exact b_X9_go_0 l S hr hlk hK N σ τ x1 h hw hl
/-! X11_sailed -/
def B_X11_sailed_0 (N : Nat) (σ : gI) (τ : gJ) (x1 : Int32) (x2 : Int32) (x3 : Int32) (x4 : Int32) : Option (Int32 × gI × gJ) := bd (B_X9_thinkOf_0 N σ τ x1 x2 x3 x4 (σ 30 8)) fun _ σ_1 τ_1 => bd (B_X9_go_0 N σ_1 τ_1 (σ_1 30 7)) fun r_2 σ_2 τ_2 => some (r_2, σ_2, τ_2)
set_option maxHeartbeats 4000000 in
set_option maxRecDepth 100000 in
theorem b_X11_sailed_0 (l : Launch) (S : CallFix P9 m9 C9 cX11_sailed 5 s av.toArray gx_G RX11) (hr : meth.sig.returnType = (some .int)) (hlk : meth.locks = false) (hK : gx_K E s) (N : Nat) (σ : gI) (τ : gJ) (x1 : Int32) (x2 : Int32) (x3 : Int32) (x4 : Int32) {r : Int32} {σ1 : gI} {τ1 : gJ} (h : B_X11_sailed_0 N σ τ x1 x2 x3 x4 = some (r, σ1, τ1)) {H : Heap} {locs : List Loc} {ls : Array Slot} (hw : gx_W gx_tb gx_tb.length E s σ τ H locs) (hl : lv_has ls 5 [(0, .ref (E.2.2 + 0)), (1, .int x1), (2, .int x2), (3, .int x3), (4, .int x4)]) : W P9 l e9 (gx_rm 5) s m9 av.toArray below meth C9 H locs 0 0 (gq_Qi below av s E r σ1 τ1) (F0 m9 0 ls []) := by
  have hx := S.1
  have hb := S.2.1
  unfold B_X11_sailed_0 at h
  refine lv_aload_n hx hb dX11_sailed_0 rfl (lv_at hl 0 rfl) ?_
  refine gx_getr (j := 160) S hK hw t_0 cl_12 15 (by decide) rfl mw_462 rfl dX11_sailed_1 ?_
  refine lv_iload_n hx hb dX11_sailed_4 rfl (lv_at hl 1 rfl) ?_
  refine lv_iload_n hx hb dX11_sailed_5 rfl (lv_at hl 2 rfl) ?_
  refine lv_iload_n hx hb dX11_sailed_6 rfl (lv_at hl 3 rfl) ?_
  refine lv_iload hx hb dX11_sailed_7 (lv_at hl 4 rfl) ?_
  refine lv_aload_n hx hb dX11_sailed_9 rfl (lv_at hl 0 rfl) ?_
  refine gx_getr (j := 30) S hK hw t_0 cl_12 7 (by decide) rfl mw_454 rfl dX11_sailed_10 ?_
  refine gx_get S hK hw t_30 cl_7 8 (by decide) rfl mw_280 rfl dX11_sailed_13 ?_
  obtain ⟨u_1, σ_1, τ_1, q_1, h⟩ := bd_some h
  refine gx_cVv (As := [.int x1, .int x2, .int x3, .int x4, .int (σ 30 8)]) (rest := []) S hK gx_ok hw (c_X9_thinkOf l (E := E) N σ τ x1 x2 x3 x4 (σ 30 8) q_1) cw_X11_327 t_160 cl_10 ⟨Nat.le_of_ble_eq_true rfl, Nat.le_of_ble_eq_true rfl⟩ rfl hl.1 rfl (Nat.le_of_ble_eq_true rfl) ⟨Nat.le_of_ble_eq_true rfl, Nat.le_of_ble_eq_true rfl⟩ dX11_sailed_16 (fun σ9 τ9 H locs hp hw => ?_)
  obtain ⟨rfl, rfl⟩ := hp
  refine lv_aload_n hx hb dX11_sailed_19 rfl (lv_at hl 0 rfl) ?_
  refine gx_getr (j := 160) S hK hw t_0 cl_12 15 (by decide) rfl mw_462 rfl dX11_sailed_20 ?_
  refine lv_aload_n hx hb dX11_sailed_23 rfl (lv_at hl 0 rfl) ?_
  refine gx_getr (j := 30) S hK hw t_0 cl_12 7 (by decide) rfl mw_454 rfl dX11_sailed_24 ?_
  refine gx_get S hK hw t_30 cl_7 7 (by decide) rfl mw_276 rfl dX11_sailed_27 ?_
  obtain ⟨r_2, σ_2, τ_2, q_2, h⟩ := bd_some h
  refine gx_cVi (As := [.int (σ_1 30 7)]) (rest := []) S hK gx_ok hw (c_X9_go l (E := E) N σ_1 τ_1 (σ_1 30 7) q_2) cw_X11_420 t_160 cl_10 ⟨Nat.le_of_ble_eq_true rfl, Nat.le_of_ble_eq_true rfl⟩ rfl hl.1 rfl (Nat.le_of_ble_eq_true rfl) ⟨Nat.le_of_ble_eq_true rfl, Nat.le_of_ble_eq_true rfl⟩ dX11_sailed_30 (fun r9 σ9 τ9 H locs hp hw => ?_)
  obtain ⟨rfl, rfl, rfl⟩ := hp
  obtain ⟨rfl, rfl, rfl⟩ := sm_inj h
  exact gx_ri (post := gq_p r_2 σ_2 τ_2) (v := r_2) S hr hlk hw rfl dX11_sailed_33 ⟨rfl, rfl, rfl⟩
set_option maxHeartbeats 4000000 in
set_option maxRecDepth 100000 in
theorem c_X11_sailed (l : Launch) {E : gE} (N : Nat) (σ : gI) (τ : gJ) (x1 : Int32) (x2 : Int32) (x3 : Int32) (x4 : Int32) {r : Int32} {σ1 : gI} {τ1 : gJ} (h : B_X11_sailed_0 N σ τ x1 x2 x3 x4 = some (r, σ1, τ1)) : gx_Mi l yX11_sailed cX11_sailed 5 (some .int) 5 gx_tb E σ τ [.ref (E.2.2 + 0), .int x1, .int x2, .int x3, .int x4] (gq_p r σ1 τ1) := by
  refine gx_bi (by decide +kernel) (Nat.le_of_ble_eq_true rfl) ?_
  intro P9 e9 s m9 below meth C9 S hr hlk hK hw ls hl
  have hl : lv_has ls 5 [(0, .ref (E.2.2 + 0)), (1, .int x1), (2, .int x2), (3, .int x3), (4, .int x4)] := hl
  exact b_X11_sailed_0 l S hr hlk hK N σ τ x1 x2 x3 x4 h hw hl
/-! X11_isIn -/
def B_X11_isIn_0 (N : Nat) (σ : gI) (τ : gJ) (x0 : Int32) (x1 : Int32) : Option (Int32 × gI × gJ) := if x0 < 0 then (some (0, σ, τ)) else (if x0 - x0 / 16 * 16 = x1 then (some (1, σ, τ)) else (some (0, σ, τ)))
set_option maxHeartbeats 4000000 in
set_option maxRecDepth 100000 in
theorem b_X11_isIn_0 (l : Launch) (S : CallFix P9 m9 C9 cX11_isIn 2 s av.toArray gx_G RX11) (hr : meth.sig.returnType = (some .boolean)) (hlk : meth.locks = false) (hK : gx_K E s) (N : Nat) (σ : gI) (τ : gJ) (x0 : Int32) (x1 : Int32) {r : Int32} {σ1 : gI} {τ1 : gJ} (h : B_X11_isIn_0 N σ τ x0 x1 = some (r, σ1, τ1)) {H : Heap} {locs : List Loc} {ls : Array Slot} (hw : gx_W gx_tb gx_tb.length E s σ τ H locs) (hl : lv_has ls 2 [(0, .int x0), (1, .int x1)]) : W P9 l e9 (gx_rm 0) s m9 av.toArray below meth C9 H locs 0 0 (gq_Qi below av s E r σ1 τ1) (F0 m9 0 ls []) := by
  have hx := S.1
  have hb := S.2.1
  unfold B_X11_isIn_0 at h
  refine lv_iload_n hx hb dX11_isIn_0 rfl (lv_at hl 0 rfl) ?_
  refine lv_if_lt (tgt := 16) hx hb dX11_isIn_1 (by decide) (fun c_1 => ?_) (fun c_1 => ?_)
  · rw [if_pos c_1] at h
    refine lv_iconst (v := 0) hx hb dX11_isIn_16 (by decide) ?_
    obtain ⟨rfl, rfl, rfl⟩ := sm_inj h
    exact gx_ri (post := gq_p 0 σ τ) (v := 0) S hr hlk hw rfl dX11_isIn_17 ⟨rfl, rfl, rfl⟩
  · rw [if_neg c_1] at h
    refine lv_iload_n hx hb dX11_isIn_4 rfl (lv_at hl 0 rfl) ?_
    refine lv_bipush (v := 16) hx hb dX11_isIn_5 (by decide) ?_
    refine lv_irem hx hb dX11_isIn_7 (by decide) ?_
    refine lv_iload_n hx hb dX11_isIn_8 rfl (lv_at hl 1 rfl) ?_
    refine lv_icmp_ne (tgt := 16) hx hb dX11_isIn_9 (by decide) (fun c_2 => ?_) (fun c_2 => ?_)
    · rw [if_neg c_2] at h
      refine lv_iconst (v := 0) hx hb dX11_isIn_16 (by decide) ?_
      obtain ⟨rfl, rfl, rfl⟩ := sm_inj h
      exact gx_ri (post := gq_p 0 σ τ) (v := 0) S hr hlk hw rfl dX11_isIn_17 ⟨rfl, rfl, rfl⟩
    · rw [if_pos c_2] at h
      refine lv_iconst (v := 1) hx hb dX11_isIn_12 (by decide) ?_
      refine lv_goto (tgt := 17) hx hb dX11_isIn_13 (by decide) ?_
      obtain ⟨rfl, rfl, rfl⟩ := sm_inj h
      exact gx_ri (post := gq_p 1 σ τ) (v := 1) S hr hlk hw rfl dX11_isIn_17 ⟨rfl, rfl, rfl⟩
set_option maxHeartbeats 4000000 in
set_option maxRecDepth 100000 in
theorem c_X11_isIn (l : Launch) {E : gE} (N : Nat) (σ : gI) (τ : gJ) (x0 : Int32) (x1 : Int32) {r : Int32} {σ1 : gI} {τ1 : gJ} (h : B_X11_isIn_0 N σ τ x0 x1 = some (r, σ1, τ1)) : gx_Mi l yX11_isIn cX11_isIn 2 (some .boolean) 0 gx_tb E σ τ [.int x0, .int x1] (gq_p r σ1 τ1) := by
  refine gx_bi (by decide +kernel) (Nat.le_of_ble_eq_true rfl) ?_
  intro P9 e9 s m9 below meth C9 S hr hlk hK hw ls hl
  have hl : lv_has ls 2 [(0, .int x0), (1, .int x1)] := hl
  exact b_X11_isIn_0 l S hr hlk hK N σ τ x0 x1 h hw hl
/-! X4_tell_ -/
def B_X4_tell__0 (N : Nat) (σ : gI) (τ : gJ) (x1 : Int64) (x3 : Int64) : Option (Unit × gI × gJ) := nm (upJ τ 157 0 x1) fun τ_1 => nm (upJ τ_1 157 1 x3) fun τ_2 => nm (up2 σ 156 1 2) fun σ_3 => some ((), σ_3, τ_2)
set_option maxHeartbeats 4000000 in
set_option maxRecDepth 100000 in
theorem b_X4_tell__0 (l : Launch) (S : CallFix P9 m9 C9 cX4_tell_ 5 s av.toArray gx_G RX4) (hr : meth.sig.returnType = none) (hlk : meth.locks = false) (hK : gx_K E s) (N : Nat) (σ : gI) (τ : gJ) (x1 : Int64) (x3 : Int64) {r : Unit} {σ1 : gI} {τ1 : gJ} (h : B_X4_tell__0 N σ τ x1 x3 = some (r, σ1, τ1)) {H : Heap} {locs : List Loc} {ls : Array Slot} (hw : gx_W gx_tb gx_tb.length E s σ τ H locs) (hl : lv_has ls 5 [(0, .ref (E.2.2 + 156)), (1, .long x1), (3, .long x3)]) : W P9 l e9 (gx_rm 0) s m9 av.toArray below meth C9 H locs 0 0 (gq_Qv below av s E σ1 τ1) (F0 m9 0 ls []) := by
  have hx := S.1
  have hb := S.2.1
  unfold B_X4_tell__0 at h
  refine lv_aload_n hx hb dX4_tell__0 rfl (lv_at hl 0 rfl) ?_
  refine gx_getr (j := 157) S hK hw t_156 cl_5 0 (by decide) rfl mw_356 rfl dX4_tell__1 ?_
  refine lv_iconst (v := 0) hx hb dX4_tell__4 (by decide) ?_
  refine lv_lload_n hx hb dX4_tell__5 rfl (lv_at hl 1 rfl) ?_
  refine gx_last S hK gx_ok hw t_157 0 rfl (gx_in rfl (by decide) (by decide)) dX4_tell__6 (fun H locs hw => ?_)
  obtain ⟨τ_1, e_1, h⟩ := nm_some h
  rw [← e_1] at hw
  refine lv_aload_n hx hb dX4_tell__7 rfl (lv_at hl 0 rfl) ?_
  refine gx_getr (j := 157) S hK hw t_156 cl_5 0 (by decide) rfl mw_356 rfl dX4_tell__8 ?_
  refine lv_iconst (v := 1) hx hb dX4_tell__11 (by decide) ?_
  refine lv_lload_n hx hb dX4_tell__12 rfl (lv_at hl 2 rfl) ?_
  refine gx_last S hK gx_ok hw t_157 1 rfl (gx_in rfl (by decide) (by decide)) dX4_tell__13 (fun H locs hw => ?_)
  obtain ⟨τ_2, e_2, h⟩ := nm_some h
  rw [← e_2] at hw
  refine lv_aload_n hx hb dX4_tell__14 rfl (lv_at hl 0 rfl) ?_
  refine lv_iconst (v := 2) hx hb dX4_tell__15 (by decide) ?_
  refine gx_put S hK gx_ok hw t_156 cl_5 1 (by decide) rfl mw_357 rfl rfl (ty := .int) (v := 2) (by decide +kernel) rfl rfl dX4_tell__16 (fun H locs hw => ?_)
  obtain ⟨σ_3, e_3, h⟩ := nm_some h
  rw [← e_3] at hw
  obtain ⟨-, rfl, rfl⟩ := sm_inj h
  exact gx_rv (post := gq_v σ_3 τ_2) S hr hlk hw dX4_tell__19 ⟨rfl, rfl⟩
set_option maxHeartbeats 4000000 in
set_option maxRecDepth 100000 in
theorem c_X4_tell_ (l : Launch) {E : gE} (N : Nat) (σ : gI) (τ : gJ) (x1 : Int64) (x3 : Int64) {r : Unit} {σ1 : gI} {τ1 : gJ} (h : B_X4_tell__0 N σ τ x1 x3 = some (r, σ1, τ1)) : gx_Mv l yX4_tell_ cX4_tell_ 5 none 0 gx_tb E σ τ [.ref (E.2.2 + 156), .long x1, .long x3] (gq_v σ1 τ1) := by
  refine gx_bv (by decide +kernel) (Nat.le_of_ble_eq_true rfl) ?_
  intro P9 e9 s m9 below meth C9 S hr hlk hK hw ls hl
  have hl : lv_has ls 5 [(0, .ref (E.2.2 + 156)), (1, .long x1), (3, .long x3)] := hl
  exact b_X4_tell__0 l S hr hlk hK N σ τ x1 x3 h hw hl
/-! X11_basin -/
def B_X11_basin_101 (N : Nat) (rec_33 : gI → gJ → Int32 → Int32 → Int32 → Int32 → Int32 → Int32 → Int32 → Option (Int32 × gI × gJ)) (σ : gI) (τ : gJ) (x1 : Int32) (x2 : Int32) (x3 : Int32) (x4 : Int32) (x6 : Int32) (x7 : Int32) (y0 : Int32) (y1 : Int32) : Option (Int32 × gI × gJ) := nm (y1 ||| y0) fun v_1 => if σ 171 10 = 0 then (nm (x6 ||| 0) fun v_3 => nm (x7 + 1) fun v_4 => rec_33 σ τ x1 x2 x3 x4 v_1 v_3 v_4) else (nm (x6 ||| (1 <<< (x7 &&& 31))) fun v_5 => nm (x7 + 1) fun v_6 => rec_33 σ τ x1 x2 x3 x4 v_1 v_5 v_6)
def C_X11_basin_33 (N : Nat) (rec_33 : gI → gJ → Int32 → Int32 → Int32 → Int32 → Int32 → Int32 → Int32 → Option (Int32 × gI × gJ)) (σ : gI) (τ : gJ) (x1 : Int32) (x2 : Int32) (x3 : Int32) (x4 : Int32) (x5 : Int32) (x6 : Int32) (x7 : Int32) : Option (Int32 × gI × gJ) := if σ 3 6 ≤ x7 then (bd (B_X4_tell__0 N σ τ x5.toInt64 x6.toInt64) fun _ σ_2 τ_2 => some (x4, σ_2, τ_2)) else (bd (B_X11_sailed_0 N σ τ x7 x1 x2 0) fun r_3 σ_3 τ_3 => bd (B_X11_isIn_0 N σ_3 τ_3 r_3 x3) fun r_4 σ_4 τ_4 => if r_4 = 0 then (nm (x4 ||| 0) fun v_6 => if σ_4 171 9 = 0 then (B_X11_basin_101 N rec_33 σ_4 τ_4 x1 x2 x3 v_6 x6 x7 0 x5) else (B_X11_basin_101 N rec_33 σ_4 τ_4 x1 x2 x3 v_6 x6 x7 (1 <<< (x7 &&& 31)) x5)) else (nm (x4 ||| (1 <<< (x7 &&& 31))) fun v_8 => if σ_4 171 9 = 0 then (B_X11_basin_101 N rec_33 σ_4 τ_4 x1 x2 x3 v_8 x6 x7 0 x5) else (B_X11_basin_101 N rec_33 σ_4 τ_4 x1 x2 x3 v_8 x6 x7 (1 <<< (x7 &&& 31)) x5)))
def H_X11_basin_33 (N : Nat) : Nat → gI → gJ → Int32 → Int32 → Int32 → Int32 → Int32 → Int32 → Int32 → Option (Int32 × gI × gJ) := itn (fun rec_33 => C_X11_basin_33 N rec_33) (fun _ _ _ _ _ _ _ _ _ => none)
def B_X11_basin_0 (N : Nat) (σ : gI) (τ : gJ) (x1 : Int32) (x2 : Int32) (x3 : Int32) : Option (Int32 × gI × gJ) := bd (B_X11_isLoad_0 N σ τ x1 x2) fun r_1 σ_1 τ_1 => if r_1 = 0 then (some ((-1), σ_1, τ_1)) else (bd (B_X8_isKitchen_0 N σ_1 τ_1 x3) fun r_3 σ_3 τ_3 => if r_3 = 0 then (some ((-1), σ_3, τ_3)) else (H_X11_basin_33 N N σ_3 τ_3 x1 x2 x3 0 0 0 0))
set_option maxHeartbeats 4000000 in
set_option maxRecDepth 100000 in
theorem b_X11_basin_101 (l : Launch) (S : CallFix P9 m9 C9 cX11_basin 9 s av.toArray gx_G RX11) (hr : meth.sig.returnType = (some .int)) (hlk : meth.locks = false) (hK : gx_K E s) (N : Nat) (rec_33 : gI → gJ → Int32 → Int32 → Int32 → Int32 → Int32 → Int32 → Int32 → Option (Int32 × gI × gJ)) (hrec_33 : ∀ (σ : gI) (τ : gJ) (x1 : Int32) (x2 : Int32) (x3 : Int32) (x4 : Int32) (x5 : Int32) (x6 : Int32) (x7 : Int32) (r : Int32) (σ1 : gI) (τ1 : gJ) (H : Heap) (locs : List Loc) (ls : Array Slot), rec_33 σ τ x1 x2 x3 x4 x5 x6 x7 = some (r, σ1, τ1) → gx_W gx_tb gx_tb.length E s σ τ H locs → lv_has ls 9 [(0, .ref (E.2.2 + 0)), (1, .int x1), (2, .int x2), (3, .int x3), (4, .int x4), (5, .int x5), (6, .int x6), (7, .int x7)] → W P9 l e9 (gx_rm 6) s m9 av.toArray below meth C9 H locs 0 0 (gq_Qi below av s E r σ1 τ1) (F0 m9 33 ls [])) (σ : gI) (τ : gJ) (x1 : Int32) (x2 : Int32) (x3 : Int32) (x4 : Int32) (x6 : Int32) (x7 : Int32) (y0 : Int32) (y1 : Int32) {r : Int32} {σ1 : gI} {τ1 : gJ} (h : B_X11_basin_101 N rec_33 σ τ x1 x2 x3 x4 x6 x7 y0 y1 = some (r, σ1, τ1)) {H : Heap} {locs : List Loc} {ls : Array Slot} (hw : gx_W gx_tb gx_tb.length E s σ τ H locs) (hl : lv_has ls 9 [(0, .ref (E.2.2 + 0)), (1, .int x1), (2, .int x2), (3, .int x3), (4, .int x4), (6, .int x6), (7, .int x7)]) : W P9 l e9 (gx_rm 6) s m9 av.toArray below meth C9 H locs 0 0 (gq_Qi below av s E r σ1 τ1) (F0 m9 101 ls [.int y0, .int y1]) := by
  have hx := S.1
  have hb := S.2.1
  unfold B_X11_basin_101 at h
  refine lv_ior hx hb dX11_basin_101 ?_
  refine lv_istore (lv' := [(5, .int (y1 ||| y0)), (0, .ref (E.2.2 + 0)), (1, .int x1), (2, .int x2), (3, .int x3), (4, .int x4), (6, .int x6), (7, .int x7)]) hx hb dX11_basin_102 hl (by decide) rfl (fun ls hl => ?_)
  obtain ⟨v_1, e_1, h⟩ := nm_some h
  have hl : lv_has ls 9 [(5, .int v_1), (0, .ref (E.2.2 + 0)), (1, .int x1), (2, .int x2), (3, .int x3), (4, .int x4), (6, .int x6), (7, .int x7)] := by rw [e_1]; exact hl
  refine lv_iload hx hb dX11_basin_104 (lv_at hl 6 rfl) ?_
  refine lv_aload_n hx hb dX11_basin_106 rfl (lv_at hl 1 rfl) ?_
  refine gx_getr (j := 160) S hK hw t_0 cl_12 15 (by decide) rfl mw_462 rfl dX11_basin_107 ?_
  refine gx_getr (j := 171) S hK hw t_160 cl_10 8 (by decide) rfl mw_426 rfl dX11_basin_110 ?_
  refine gx_get S hK hw t_171 cl_7 10 (by decide) rfl mw_286 rfl dX11_basin_113 ?_
  refine lv_if_eq (tgt := 126) hx hb dX11_basin_116 (by decide) (fun c_2 => ?_) (fun c_2 => ?_)
  · rw [if_pos c_2] at h
    refine lv_iconst (v := 0) hx hb dX11_basin_126 (by decide) ?_
    refine lv_ior hx hb dX11_basin_127 ?_
    refine lv_istore (lv' := [(6, .int (x6 ||| 0)), (5, .int v_1), (0, .ref (E.2.2 + 0)), (1, .int x1), (2, .int x2), (3, .int x3), (4, .int x4), (7, .int x7)]) hx hb dX11_basin_128 hl (by decide) rfl (fun ls hl => ?_)
    obtain ⟨v_3, e_3, h⟩ := nm_some h
    have hl : lv_has ls 9 [(6, .int v_3), (5, .int v_1), (0, .ref (E.2.2 + 0)), (1, .int x1), (2, .int x2), (3, .int x3), (4, .int x4), (7, .int x7)] := by rw [e_3]; exact hl
    refine lv_iinc (v := x7 + 1) (lv' := [(7, .int (x7 + 1)), (6, .int v_3), (5, .int v_1), (0, .ref (E.2.2 + 0)), (1, .int x1), (2, .int x2), (3, .int x3), (4, .int x4)]) hx hb dX11_basin_130 hl (k := 7) rfl rfl (by decide) rfl (fun ls hl => ?_)
    obtain ⟨v_4, e_4, h⟩ := nm_some h
    have hl : lv_has ls 9 [(7, .int v_4), (6, .int v_3), (5, .int v_1), (0, .ref (E.2.2 + 0)), (1, .int x1), (2, .int x2), (3, .int x3), (4, .int x4)] := by rw [e_4]; exact hl
    refine lv_goto (tgt := 33) hx hb dX11_basin_133 (by decide) ?_
    exact hrec_33 σ τ x1 x2 x3 x4 v_1 v_3 v_4 _ _ _ _ _ _ h hw (lv_sub hl [3, 4, 5, 6, 7, 2, 1, 0] rfl)
  · rw [if_neg c_2] at h
    refine lv_iconst (v := 1) hx hb dX11_basin_119 (by decide) ?_
    refine lv_iload hx hb dX11_basin_120 (lv_at hl 7 rfl) ?_
    refine lv_ishl hx hb dX11_basin_122 ?_
    refine lv_goto (tgt := 127) hx hb dX11_basin_123 (by decide) ?_
    refine lv_ior hx hb dX11_basin_127 ?_
    refine lv_istore (lv' := [(6, .int (x6 ||| (1 <<< (x7 &&& 31)))), (5, .int v_1), (0, .ref (E.2.2 + 0)), (1, .int x1), (2, .int x2), (3, .int x3), (4, .int x4), (7, .int x7)]) hx hb dX11_basin_128 hl (by decide) rfl (fun ls hl => ?_)
    obtain ⟨v_5, e_5, h⟩ := nm_some h
    have hl : lv_has ls 9 [(6, .int v_5), (5, .int v_1), (0, .ref (E.2.2 + 0)), (1, .int x1), (2, .int x2), (3, .int x3), (4, .int x4), (7, .int x7)] := by rw [e_5]; exact hl
    refine lv_iinc (v := x7 + 1) (lv' := [(7, .int (x7 + 1)), (6, .int v_5), (5, .int v_1), (0, .ref (E.2.2 + 0)), (1, .int x1), (2, .int x2), (3, .int x3), (4, .int x4)]) hx hb dX11_basin_130 hl (k := 7) rfl rfl (by decide) rfl (fun ls hl => ?_)
    obtain ⟨v_6, e_6, h⟩ := nm_some h
    have hl : lv_has ls 9 [(7, .int v_6), (6, .int v_5), (5, .int v_1), (0, .ref (E.2.2 + 0)), (1, .int x1), (2, .int x2), (3, .int x3), (4, .int x4)] := by rw [e_6]; exact hl
    refine lv_goto (tgt := 33) hx hb dX11_basin_133 (by decide) ?_
    exact hrec_33 σ τ x1 x2 x3 x4 v_1 v_5 v_6 _ _ _ _ _ _ h hw (lv_sub hl [3, 4, 5, 6, 7, 2, 1, 0] rfl)
set_option maxHeartbeats 4000000 in
set_option maxRecDepth 100000 in
theorem k_X11_basin_33 (l : Launch) (S : CallFix P9 m9 C9 cX11_basin 9 s av.toArray gx_G RX11) (hr : meth.sig.returnType = (some .int)) (hlk : meth.locks = false) (hK : gx_K E s) (N : Nat) (rec_33 : gI → gJ → Int32 → Int32 → Int32 → Int32 → Int32 → Int32 → Int32 → Option (Int32 × gI × gJ)) (hrec_33 : ∀ (σ : gI) (τ : gJ) (x1 : Int32) (x2 : Int32) (x3 : Int32) (x4 : Int32) (x5 : Int32) (x6 : Int32) (x7 : Int32) (r : Int32) (σ1 : gI) (τ1 : gJ) (H : Heap) (locs : List Loc) (ls : Array Slot), rec_33 σ τ x1 x2 x3 x4 x5 x6 x7 = some (r, σ1, τ1) → gx_W gx_tb gx_tb.length E s σ τ H locs → lv_has ls 9 [(0, .ref (E.2.2 + 0)), (1, .int x1), (2, .int x2), (3, .int x3), (4, .int x4), (5, .int x5), (6, .int x6), (7, .int x7)] → W P9 l e9 (gx_rm 6) s m9 av.toArray below meth C9 H locs 0 0 (gq_Qi below av s E r σ1 τ1) (F0 m9 33 ls [])) (σ : gI) (τ : gJ) (x1 : Int32) (x2 : Int32) (x3 : Int32) (x4 : Int32) (x5 : Int32) (x6 : Int32) (x7 : Int32) {r : Int32} {σ1 : gI} {τ1 : gJ} (h : C_X11_basin_33 N rec_33 σ τ x1 x2 x3 x4 x5 x6 x7 = some (r, σ1, τ1)) {H : Heap} {locs : List Loc} {ls : Array Slot} (hw : gx_W gx_tb gx_tb.length E s σ τ H locs) (hl : lv_has ls 9 [(0, .ref (E.2.2 + 0)), (1, .int x1), (2, .int x2), (3, .int x3), (4, .int x4), (5, .int x5), (6, .int x6), (7, .int x7)]) : W P9 l e9 (gx_rm 6) s m9 av.toArray below meth C9 H locs 0 0 (gq_Qi below av s E r σ1 τ1) (F0 m9 33 ls []) := by
  have hx := S.1
  have hb := S.2.1
  unfold C_X11_basin_33 at h
  refine lv_iload hx hb dX11_basin_33 (lv_at hl 7 rfl) ?_
  refine lv_aload_n hx hb dX11_basin_35 rfl (lv_at hl 0 rfl) ?_
  refine gx_getr (j := 3) S hK hw t_0 cl_12 1 (by decide) rfl mw_448 rfl dX11_basin_36 ?_
  refine gx_get S hK hw t_3 cl_9 6 (by decide) rfl mw_155 rfl dX11_basin_39 ?_
  refine lv_icmp_ge (tgt := 136) hx hb dX11_basin_42 (by decide) (fun c_1 => ?_) (fun c_1 => ?_)
  · rw [if_pos c_1] at h
    refine lv_aload_n hx hb dX11_basin_136 rfl (lv_at hl 0 rfl) ?_
    refine gx_getr (j := 156) S hK hw t_0 cl_12 13 (by decide) rfl mw_460 rfl dX11_basin_137 ?_
    refine lv_iload hx hb dX11_basin_140 (lv_at hl 5 rfl) ?_
    refine lv_i2l (v := x5.toInt64) hx hb dX11_basin_142 rfl ?_
    refine lv_iload hx hb dX11_basin_143 (lv_at hl 6 rfl) ?_
    refine lv_i2l (v := x6.toInt64) hx hb dX11_basin_145 rfl ?_
    obtain ⟨u_2, σ_2, τ_2, q_2, h⟩ := bd_some h
    refine gx_cVv (As := [.long x5.toInt64, .long x6.toInt64]) (rest := []) S hK gx_ok hw (c_X4_tell_ l (E := E) N σ τ x5.toInt64 x6.toInt64 q_2) cw_X11_257 t_156 cl_5 ⟨Nat.le_of_ble_eq_true rfl, Nat.le_of_ble_eq_true rfl⟩ rfl hl.1 rfl (Nat.le_of_ble_eq_true rfl) ⟨Nat.le_of_ble_eq_true rfl, Nat.le_of_ble_eq_true rfl⟩ dX11_basin_146 (fun σ9 τ9 H locs hp hw => ?_)
    obtain ⟨rfl, rfl⟩ := hp
    refine lv_iload hx hb dX11_basin_149 (lv_at hl 4 rfl) ?_
    obtain ⟨rfl, rfl, rfl⟩ := sm_inj h
    exact gx_ri (post := gq_p x4 σ_2 τ_2) (v := x4) S hr hlk hw rfl dX11_basin_151 ⟨rfl, rfl, rfl⟩
  · rw [if_neg c_1] at h
    refine lv_aload_n hx hb dX11_basin_45 rfl (lv_at hl 0 rfl) ?_
    refine lv_iload hx hb dX11_basin_46 (lv_at hl 7 rfl) ?_
    refine lv_iload_n hx hb dX11_basin_48 rfl (lv_at hl 1 rfl) ?_
    refine lv_iload_n hx hb dX11_basin_49 rfl (lv_at hl 2 rfl) ?_
    refine lv_iconst (v := 0) hx hb dX11_basin_50 (by decide) ?_
    obtain ⟨r_3, σ_3, τ_3, q_3, h⟩ := bd_some h
    refine gx_cVi (As := [.int x7, .int x1, .int x2, .int 0]) (rest := []) S hK gx_ok hw (c_X11_sailed l (E := E) N σ τ x7 x1 x2 0 q_3) cw_X11_313 t_0 cl_12 ⟨Nat.le_of_ble_eq_true rfl, Nat.le_of_ble_eq_true rfl⟩ rfl hl.1 rfl (Nat.le_of_ble_eq_true rfl) ⟨Nat.le_of_ble_eq_true rfl, Nat.le_of_ble_eq_true rfl⟩ dX11_basin_51 (fun r9 σ9 τ9 H locs hp hw => ?_)
    obtain ⟨rfl, rfl, rfl⟩ := hp
    refine lv_istore (lv' := [(8, .int r_3), (0, .ref (E.2.2 + 0)), (1, .int x1), (2, .int x2), (3, .int x3), (4, .int x4), (5, .int x5), (6, .int x6), (7, .int x7)]) hx hb dX11_basin_54 hl (by decide) rfl (fun ls hl => ?_)
    refine lv_iload hx hb dX11_basin_56 (lv_at hl 5 rfl) ?_
    refine lv_iload hx hb dX11_basin_58 (lv_at hl 0 rfl) ?_
    refine lv_iload_n hx hb dX11_basin_60 rfl (lv_at hl 4 rfl) ?_
    obtain ⟨r_4, σ_4, τ_4, q_4, h⟩ := bd_some h
    refine gx_cSi (As := [.int r_3, .int x3]) (rest := [.int x4]) S hK gx_ok hw (c_X11_isIn l (E := E) N σ_3 τ_3 r_3 x3 q_4) cw_X11_317 ⟨Nat.le_of_ble_eq_true rfl, Nat.le_of_ble_eq_true rfl⟩ rfl hl.1 rfl (Nat.le_of_ble_eq_true rfl) ⟨Nat.le_of_ble_eq_true rfl, Nat.le_of_ble_eq_true rfl⟩ dX11_basin_61 (fun r9 σ9 τ9 H locs hp hw => ?_)
    obtain ⟨rfl, rfl, rfl⟩ := hp
    refine lv_if_eq (tgt := 74) hx hb dX11_basin_64 (by decide) (fun c_5 => ?_) (fun c_5 => ?_)
    · rw [if_pos c_5] at h
      refine lv_iconst (v := 0) hx hb dX11_basin_74 (by decide) ?_
      refine lv_ior hx hb dX11_basin_75 ?_
      refine lv_istore (lv' := [(4, .int (x4 ||| 0)), (8, .int r_3), (0, .ref (E.2.2 + 0)), (1, .int x1), (2, .int x2), (3, .int x3), (5, .int x5), (6, .int x6), (7, .int x7)]) hx hb dX11_basin_76 hl (by decide) rfl (fun ls hl => ?_)
      obtain ⟨v_6, e_6, h⟩ := nm_some h
      have hl : lv_has ls 9 [(4, .int v_6), (8, .int r_3), (0, .ref (E.2.2 + 0)), (1, .int x1), (2, .int x2), (3, .int x3), (5, .int x5), (6, .int x6), (7, .int x7)] := by rw [e_6]; exact hl
      refine lv_iload hx hb dX11_basin_78 (lv_at hl 6 rfl) ?_
      refine lv_aload_n hx hb dX11_basin_80 rfl (lv_at hl 2 rfl) ?_
      refine gx_getr (j := 160) S hK hw t_0 cl_12 15 (by decide) rfl mw_462 rfl dX11_basin_81 ?_
      refine gx_getr (j := 171) S hK hw t_160 cl_10 8 (by decide) rfl mw_426 rfl dX11_basin_84 ?_
      refine gx_get S hK hw t_171 cl_7 9 (by decide) rfl mw_283 rfl dX11_basin_87 ?_
      refine lv_if_eq (tgt := 100) hx hb dX11_basin_90 (by decide) (fun c_7 => ?_) (fun c_7 => ?_)
      · rw [if_pos c_7] at h
        refine lv_iconst (v := 0) hx hb dX11_basin_100 (by decide) ?_
        exact b_X11_basin_101 l S hr hlk hK N rec_33 hrec_33 σ_4 τ_4 x1 x2 x3 v_6 x6 x7 0 x5 h hw (lv_sub hl [2, 3, 4, 5, 0, 7, 8] rfl)
      · rw [if_neg c_7] at h
        refine lv_iconst (v := 1) hx hb dX11_basin_93 (by decide) ?_
        refine lv_iload hx hb dX11_basin_94 (lv_at hl 8 rfl) ?_
        refine lv_ishl hx hb dX11_basin_96 ?_
        refine lv_goto (tgt := 101) hx hb dX11_basin_97 (by decide) ?_
        exact b_X11_basin_101 l S hr hlk hK N rec_33 hrec_33 σ_4 τ_4 x1 x2 x3 v_6 x6 x7 (1 <<< (x7 &&& 31)) x5 h hw (lv_sub hl [2, 3, 4, 5, 0, 7, 8] rfl)
    · rw [if_neg c_5] at h
      refine lv_iconst (v := 1) hx hb dX11_basin_67 (by decide) ?_
      refine lv_iload hx hb dX11_basin_68 (lv_at hl 8 rfl) ?_
      refine lv_ishl hx hb dX11_basin_70 ?_
      refine lv_goto (tgt := 75) hx hb dX11_basin_71 (by decide) ?_
      refine lv_ior hx hb dX11_basin_75 ?_
      refine lv_istore (lv' := [(4, .int (x4 ||| (1 <<< (x7 &&& 31)))), (8, .int r_3), (0, .ref (E.2.2 + 0)), (1, .int x1), (2, .int x2), (3, .int x3), (5, .int x5), (6, .int x6), (7, .int x7)]) hx hb dX11_basin_76 hl (by decide) rfl (fun ls hl => ?_)
      obtain ⟨v_8, e_8, h⟩ := nm_some h
      have hl : lv_has ls 9 [(4, .int v_8), (8, .int r_3), (0, .ref (E.2.2 + 0)), (1, .int x1), (2, .int x2), (3, .int x3), (5, .int x5), (6, .int x6), (7, .int x7)] := by rw [e_8]; exact hl
      refine lv_iload hx hb dX11_basin_78 (lv_at hl 6 rfl) ?_
      refine lv_aload_n hx hb dX11_basin_80 rfl (lv_at hl 2 rfl) ?_
      refine gx_getr (j := 160) S hK hw t_0 cl_12 15 (by decide) rfl mw_462 rfl dX11_basin_81 ?_
      refine gx_getr (j := 171) S hK hw t_160 cl_10 8 (by decide) rfl mw_426 rfl dX11_basin_84 ?_
      refine gx_get S hK hw t_171 cl_7 9 (by decide) rfl mw_283 rfl dX11_basin_87 ?_
      refine lv_if_eq (tgt := 100) hx hb dX11_basin_90 (by decide) (fun c_9 => ?_) (fun c_9 => ?_)
      · rw [if_pos c_9] at h
        refine lv_iconst (v := 0) hx hb dX11_basin_100 (by decide) ?_
        exact b_X11_basin_101 l S hr hlk hK N rec_33 hrec_33 σ_4 τ_4 x1 x2 x3 v_8 x6 x7 0 x5 h hw (lv_sub hl [2, 3, 4, 5, 0, 7, 8] rfl)
      · rw [if_neg c_9] at h
        refine lv_iconst (v := 1) hx hb dX11_basin_93 (by decide) ?_
        refine lv_iload hx hb dX11_basin_94 (lv_at hl 8 rfl) ?_
        refine lv_ishl hx hb dX11_basin_96 ?_
        refine lv_goto (tgt := 101) hx hb dX11_basin_97 (by decide) ?_
        exact b_X11_basin_101 l S hr hlk hK N rec_33 hrec_33 σ_4 τ_4 x1 x2 x3 v_8 x6 x7 (1 <<< (x7 &&& 31)) x5 h hw (lv_sub hl [2, 3, 4, 5, 0, 7, 8] rfl)
set_option maxHeartbeats 4000000 in
set_option maxRecDepth 100000 in
theorem h_X11_basin_33 (l : Launch) (S : CallFix P9 m9 C9 cX11_basin 9 s av.toArray gx_G RX11) (hr : meth.sig.returnType = (some .int)) (hlk : meth.locks = false) (hK : gx_K E s) (N : Nat) : ∀ (n : Nat) (σ : gI) (τ : gJ) (x1 : Int32) (x2 : Int32) (x3 : Int32) (x4 : Int32) (x5 : Int32) (x6 : Int32) (x7 : Int32) (r : Int32) (σ1 : gI) (τ1 : gJ), H_X11_basin_33 N n σ τ x1 x2 x3 x4 x5 x6 x7 = some (r, σ1, τ1) → ∀ (H : Heap) (locs : List Loc) (ls : Array Slot), gx_W gx_tb gx_tb.length E s σ τ H locs → lv_has ls 9 [(0, .ref (E.2.2 + 0)), (1, .int x1), (2, .int x2), (3, .int x3), (4, .int x4), (5, .int x5), (6, .int x6), (7, .int x7)] → W P9 l e9 (gx_rm 6) s m9 av.toArray below meth C9 H locs 0 0 (gq_Qi below av s E r σ1 τ1) (F0 m9 33 ls []) := by
  intro n
  induction n with
  | zero => intro σ τ x1 x2 x3 x4 x5 x6 x7 r σ1 τ1 h; cases h
  | succ n ih =>
    intro σ τ x1 x2 x3 x4 x5 x6 x7 r σ1 τ1 h H locs ls hw hl
    exact k_X11_basin_33 l S hr hlk hK N (H_X11_basin_33 N n) (fun σ τ x1 x2 x3 x4 x5 x6 x7 r σ1 τ1 H locs ls h hw hl => ih σ τ x1 x2 x3 x4 x5 x6 x7 r σ1 τ1 h H locs ls hw hl) σ τ x1 x2 x3 x4 x5 x6 x7 h hw hl
set_option maxHeartbeats 4000000 in
set_option maxRecDepth 100000 in
theorem b_X11_basin_0 (l : Launch) (S : CallFix P9 m9 C9 cX11_basin 9 s av.toArray gx_G RX11) (hr : meth.sig.returnType = (some .int)) (hlk : meth.locks = false) (hK : gx_K E s) (N : Nat) (σ : gI) (τ : gJ) (x1 : Int32) (x2 : Int32) (x3 : Int32) {r : Int32} {σ1 : gI} {τ1 : gJ} (h : B_X11_basin_0 N σ τ x1 x2 x3 = some (r, σ1, τ1)) {H : Heap} {locs : List Loc} {ls : Array Slot} (hw : gx_W gx_tb gx_tb.length E s σ τ H locs) (hl : lv_has ls 9 [(0, .ref (E.2.2 + 0)), (1, .int x1), (2, .int x2), (3, .int x3)]) : W P9 l e9 (gx_rm 6) s m9 av.toArray below meth C9 H locs 0 0 (gq_Qi below av s E r σ1 τ1) (F0 m9 0 ls []) := by
  have hx := S.1
  have hb := S.2.1
  unfold B_X11_basin_0 at h
  refine lv_iload_n hx hb dX11_basin_0 rfl (lv_at hl 1 rfl) ?_
  refine lv_iload_n hx hb dX11_basin_1 rfl (lv_at hl 2 rfl) ?_
  obtain ⟨r_1, σ_1, τ_1, q_1, h⟩ := bd_some h
  refine gx_cSi (As := [.int x1, .int x2]) (rest := []) S hK gx_ok hw (c_X11_isLoad l (E := E) N σ τ x1 x2 q_1) cw_X11_227 ⟨Nat.le_of_ble_eq_true rfl, Nat.le_of_ble_eq_true rfl⟩ rfl hl.1 rfl (Nat.le_of_ble_eq_true rfl) ⟨Nat.le_of_ble_eq_true rfl, Nat.le_of_ble_eq_true rfl⟩ dX11_basin_2 (fun r9 σ9 τ9 H locs hp hw => ?_)
  obtain ⟨rfl, rfl, rfl⟩ := hp
  refine lv_if_eq (tgt := 19) hx hb dX11_basin_5 (by decide) (fun c_2 => ?_) (fun c_2 => ?_)
  · rw [if_pos c_2] at h
    refine lv_iconst (v := (-1)) hx hb dX11_basin_19 (by decide) ?_
    obtain ⟨rfl, rfl, rfl⟩ := sm_inj h
    exact gx_ri (post := gq_p (-1) σ_1 τ_1) (v := (-1)) S hr hlk hw rfl dX11_basin_20 ⟨rfl, rfl, rfl⟩
  · rw [if_neg c_2] at h
    refine lv_aload_n hx hb dX11_basin_8 rfl (lv_at hl 0 rfl) ?_
    refine gx_getr (j := 3) S hK hw t_0 cl_12 1 (by decide) rfl mw_448 rfl dX11_basin_9 ?_
    refine lv_iload_n hx hb dX11_basin_12 rfl (lv_at hl 3 rfl) ?_
    obtain ⟨r_3, σ_3, τ_3, q_3, h⟩ := bd_some h
    refine gx_cVi (As := [.int x3]) (rest := []) S hK gx_ok hw (c_X8_isKitchen l (E := E) N σ_1 τ_1 x3 q_3) cw_X11_234 t_3 cl_9 ⟨Nat.le_of_ble_eq_true rfl, Nat.le_of_ble_eq_true rfl⟩ rfl hl.1 rfl (Nat.le_of_ble_eq_true rfl) ⟨Nat.le_of_ble_eq_true rfl, Nat.le_of_ble_eq_true rfl⟩ dX11_basin_13 (fun r9 σ9 τ9 H locs hp hw => ?_)
    obtain ⟨rfl, rfl, rfl⟩ := hp
    refine lv_if_ne (tgt := 21) hx hb dX11_basin_16 (by decide) (fun c_4 => ?_) (fun c_4 => ?_)
    · rw [if_neg c_4] at h
      refine lv_iconst (v := 0) hx hb dX11_basin_21 (by decide) ?_
      refine lv_istore (lv' := [(4, .int 0), (0, .ref (E.2.2 + 0)), (1, .int x1), (2, .int x2), (3, .int x3)]) hx hb dX11_basin_22 hl (by decide) rfl (fun ls hl => ?_)
      refine lv_iconst (v := 0) hx hb dX11_basin_24 (by decide) ?_
      refine lv_istore (lv' := [(5, .int 0), (4, .int 0), (0, .ref (E.2.2 + 0)), (1, .int x1), (2, .int x2), (3, .int x3)]) hx hb dX11_basin_25 hl (by decide) rfl (fun ls hl => ?_)
      refine lv_iconst (v := 0) hx hb dX11_basin_27 (by decide) ?_
      refine lv_istore (lv' := [(6, .int 0), (5, .int 0), (4, .int 0), (0, .ref (E.2.2 + 0)), (1, .int x1), (2, .int x2), (3, .int x3)]) hx hb dX11_basin_28 hl (by decide) rfl (fun ls hl => ?_)
      refine lv_iconst (v := 0) hx hb dX11_basin_30 (by decide) ?_
      refine lv_istore (lv' := [(7, .int 0), (6, .int 0), (5, .int 0), (4, .int 0), (0, .ref (E.2.2 + 0)), (1, .int x1), (2, .int x2), (3, .int x3)]) hx hb dX11_basin_31 hl (by decide) rfl (fun ls hl => ?_)
      exact h_X11_basin_33 l S hr hlk hK N N σ_3 τ_3 x1 x2 x3 0 0 0 0 _ _ _ h _ _ _ hw (lv_sub hl [4, 5, 6, 7, 3, 2, 1, 0] rfl)
    · rw [if_pos c_4] at h
      refine lv_iconst (v := (-1)) hx hb dX11_basin_19 (by decide) ?_
      obtain ⟨rfl, rfl, rfl⟩ := sm_inj h
      exact gx_ri (post := gq_p (-1) σ_3 τ_3) (v := (-1)) S hr hlk hw rfl dX11_basin_20 ⟨rfl, rfl, rfl⟩
set_option maxHeartbeats 4000000 in
set_option maxRecDepth 100000 in
theorem c_X11_basin (l : Launch) {E : gE} (N : Nat) (σ : gI) (τ : gJ) (x1 : Int32) (x2 : Int32) (x3 : Int32) {r : Int32} {σ1 : gI} {τ1 : gJ} (h : B_X11_basin_0 N σ τ x1 x2 x3 = some (r, σ1, τ1)) : gx_Mi l yX11_basin cX11_basin 9 (some .int) 6 gx_tb E σ τ [.ref (E.2.2 + 0), .int x1, .int x2, .int x3] (gq_p r σ1 τ1) := by
  refine gx_bi (by decide +kernel) (Nat.le_of_ble_eq_true rfl) ?_
  intro P9 e9 s m9 below meth C9 S hr hlk hK hw ls hl
  have hl : lv_has ls 9 [(0, .ref (E.2.2 + 0)), (1, .int x1), (2, .int x2), (3, .int x3)] := hl
  exact b_X11_basin_0 l S hr hlk hK N σ τ x1 x2 x3 h hw hl
/-! X8_has -/
def B_X8_has_0 (N : Nat) (σ : gI) (τ : gJ) (x1 : Int32) : Option (Int32 × gI × gJ) := if x1 < 0 then (some (0, σ, τ)) else (if σ 3 6 ≤ x1 then (some (0, σ, τ)) else (some (1, σ, τ)))
set_option maxHeartbeats 4000000 in
set_option maxRecDepth 100000 in
theorem b_X8_has_0 (l : Launch) (S : CallFix P9 m9 C9 cX8_has 2 s av.toArray gx_G RX8) (hr : meth.sig.returnType = (some .boolean)) (hlk : meth.locks = false) (hK : gx_K E s) (N : Nat) (σ : gI) (τ : gJ) (x1 : Int32) {r : Int32} {σ1 : gI} {τ1 : gJ} (h : B_X8_has_0 N σ τ x1 = some (r, σ1, τ1)) {H : Heap} {locs : List Loc} {ls : Array Slot} (hw : gx_W gx_tb gx_tb.length E s σ τ H locs) (hl : lv_has ls 2 [(0, .ref (E.2.2 + 3)), (1, .int x1)]) : W P9 l e9 (gx_rm 0) s m9 av.toArray below meth C9 H locs 0 0 (gq_Qi below av s E r σ1 τ1) (F0 m9 0 ls []) := by
  have hx := S.1
  have hb := S.2.1
  unfold B_X8_has_0 at h
  refine lv_iload_n hx hb dX8_has_0 rfl (lv_at hl 1 rfl) ?_
  refine lv_if_lt (tgt := 16) hx hb dX8_has_1 (by decide) (fun c_1 => ?_) (fun c_1 => ?_)
  · rw [if_pos c_1] at h
    refine lv_iconst (v := 0) hx hb dX8_has_16 (by decide) ?_
    obtain ⟨rfl, rfl, rfl⟩ := sm_inj h
    exact gx_ri (post := gq_p 0 σ τ) (v := 0) S hr hlk hw rfl dX8_has_17 ⟨rfl, rfl, rfl⟩
  · rw [if_neg c_1] at h
    refine lv_iload_n hx hb dX8_has_4 rfl (lv_at hl 1 rfl) ?_
    refine lv_aload_n hx hb dX8_has_5 rfl (lv_at hl 0 rfl) ?_
    refine gx_get S hK hw t_3 cl_9 6 (by decide) rfl mw_154 rfl dX8_has_6 ?_
    refine lv_icmp_ge (tgt := 16) hx hb dX8_has_9 (by decide) (fun c_2 => ?_) (fun c_2 => ?_)
    · rw [if_pos c_2] at h
      refine lv_iconst (v := 0) hx hb dX8_has_16 (by decide) ?_
      obtain ⟨rfl, rfl, rfl⟩ := sm_inj h
      exact gx_ri (post := gq_p 0 σ τ) (v := 0) S hr hlk hw rfl dX8_has_17 ⟨rfl, rfl, rfl⟩
    · rw [if_neg c_2] at h
      refine lv_iconst (v := 1) hx hb dX8_has_12 (by decide) ?_
      refine lv_goto (tgt := 17) hx hb dX8_has_13 (by decide) ?_
      obtain ⟨rfl, rfl, rfl⟩ := sm_inj h
      exact gx_ri (post := gq_p 1 σ τ) (v := 1) S hr hlk hw rfl dX8_has_17 ⟨rfl, rfl, rfl⟩
set_option maxHeartbeats 4000000 in
set_option maxRecDepth 100000 in
theorem c_X8_has (l : Launch) {E : gE} (N : Nat) (σ : gI) (τ : gJ) (x1 : Int32) {r : Int32} {σ1 : gI} {τ1 : gJ} (h : B_X8_has_0 N σ τ x1 = some (r, σ1, τ1)) : gx_Mi l yX8_has cX8_has 2 (some .boolean) 0 gx_tb E σ τ [.ref (E.2.2 + 3), .int x1] (gq_p r σ1 τ1) := by
  refine gx_bi (by decide +kernel) (Nat.le_of_ble_eq_true rfl) ?_
  intro P9 e9 s m9 below meth C9 S hr hlk hK hw ls hl
  have hl : lv_has ls 2 [(0, .ref (E.2.2 + 3)), (1, .int x1)] := hl
  exact b_X8_has_0 l S hr hlk hK N σ τ x1 h hw hl
/-! X11_minutesOf -/
def B_X11_minutesOf_0 (N : Nat) (σ : gI) (τ : gJ) (x0 : Int32) : Option (Int32 × gI × gJ) := some (x0 / 16, σ, τ)
set_option maxHeartbeats 4000000 in
set_option maxRecDepth 100000 in
theorem b_X11_minutesOf_0 (l : Launch) (S : CallFix P9 m9 C9 cX11_minutesOf 1 s av.toArray gx_G RX11) (hr : meth.sig.returnType = (some .int)) (hlk : meth.locks = false) (hK : gx_K E s) (N : Nat) (σ : gI) (τ : gJ) (x0 : Int32) {r : Int32} {σ1 : gI} {τ1 : gJ} (h : B_X11_minutesOf_0 N σ τ x0 = some (r, σ1, τ1)) {H : Heap} {locs : List Loc} {ls : Array Slot} (hw : gx_W gx_tb gx_tb.length E s σ τ H locs) (hl : lv_has ls 1 [(0, .int x0)]) : W P9 l e9 (gx_rm 0) s m9 av.toArray below meth C9 H locs 0 0 (gq_Qi below av s E r σ1 τ1) (F0 m9 0 ls []) := by
  have hx := S.1
  have hb := S.2.1
  unfold B_X11_minutesOf_0 at h
  refine lv_iload_n hx hb dX11_minutesOf_0 rfl (lv_at hl 0 rfl) ?_
  refine lv_bipush (v := 16) hx hb dX11_minutesOf_1 (by decide) ?_
  refine lv_idiv hx hb dX11_minutesOf_3 (by decide) ?_
  obtain ⟨rfl, rfl, rfl⟩ := sm_inj h
  exact gx_ri (post := gq_p (x0 / 16) σ τ) (v := x0 / 16) S hr hlk hw rfl dX11_minutesOf_4 ⟨rfl, rfl, rfl⟩
set_option maxHeartbeats 4000000 in
set_option maxRecDepth 100000 in
theorem c_X11_minutesOf (l : Launch) {E : gE} (N : Nat) (σ : gI) (τ : gJ) (x0 : Int32) {r : Int32} {σ1 : gI} {τ1 : gJ} (h : B_X11_minutesOf_0 N σ τ x0 = some (r, σ1, τ1)) : gx_Mi l yX11_minutesOf cX11_minutesOf 1 (some .int) 0 gx_tb E σ τ [.int x0] (gq_p r σ1 τ1) := by
  refine gx_bi (by decide +kernel) (Nat.le_of_ble_eq_true rfl) ?_
  intro P9 e9 s m9 below meth C9 S hr hlk hK hw ls hl
  have hl : lv_has ls 1 [(0, .int x0)] := hl
  exact b_X11_minutesOf_0 l S hr hlk hK N σ τ x0 h hw hl
/-! X4_tell -/
def B_X4_tell_0 (N : Nat) (σ : gI) (τ : gJ) (x1 : Int64) : Option (Unit × gI × gJ) := nm (upJ τ 157 0 x1) fun τ_1 => nm (up2 σ 156 1 1) fun σ_2 => some ((), σ_2, τ_1)
set_option maxHeartbeats 4000000 in
set_option maxRecDepth 100000 in
theorem b_X4_tell_0 (l : Launch) (S : CallFix P9 m9 C9 cX4_tell 3 s av.toArray gx_G RX4) (hr : meth.sig.returnType = none) (hlk : meth.locks = false) (hK : gx_K E s) (N : Nat) (σ : gI) (τ : gJ) (x1 : Int64) {r : Unit} {σ1 : gI} {τ1 : gJ} (h : B_X4_tell_0 N σ τ x1 = some (r, σ1, τ1)) {H : Heap} {locs : List Loc} {ls : Array Slot} (hw : gx_W gx_tb gx_tb.length E s σ τ H locs) (hl : lv_has ls 3 [(0, .ref (E.2.2 + 156)), (1, .long x1)]) : W P9 l e9 (gx_rm 0) s m9 av.toArray below meth C9 H locs 0 0 (gq_Qv below av s E σ1 τ1) (F0 m9 0 ls []) := by
  have hx := S.1
  have hb := S.2.1
  unfold B_X4_tell_0 at h
  refine lv_aload_n hx hb dX4_tell_0 rfl (lv_at hl 0 rfl) ?_
  refine gx_getr (j := 157) S hK hw t_156 cl_5 0 (by decide) rfl mw_356 rfl dX4_tell_1 ?_
  refine lv_iconst (v := 0) hx hb dX4_tell_4 (by decide) ?_
  refine lv_lload_n hx hb dX4_tell_5 rfl (lv_at hl 1 rfl) ?_
  refine gx_last S hK gx_ok hw t_157 0 rfl (gx_in rfl (by decide) (by decide)) dX4_tell_6 (fun H locs hw => ?_)
  obtain ⟨τ_1, e_1, h⟩ := nm_some h
  rw [← e_1] at hw
  refine lv_aload_n hx hb dX4_tell_7 rfl (lv_at hl 0 rfl) ?_
  refine lv_iconst (v := 1) hx hb dX4_tell_8 (by decide) ?_
  refine gx_put S hK gx_ok hw t_156 cl_5 1 (by decide) rfl mw_357 rfl rfl (ty := .int) (v := 1) (by decide +kernel) rfl rfl dX4_tell_9 (fun H locs hw => ?_)
  obtain ⟨σ_2, e_2, h⟩ := nm_some h
  rw [← e_2] at hw
  obtain ⟨-, rfl, rfl⟩ := sm_inj h
  exact gx_rv (post := gq_v σ_2 τ_1) S hr hlk hw dX4_tell_12 ⟨rfl, rfl⟩
set_option maxHeartbeats 4000000 in
set_option maxRecDepth 100000 in
theorem c_X4_tell (l : Launch) {E : gE} (N : Nat) (σ : gI) (τ : gJ) (x1 : Int64) {r : Unit} {σ1 : gI} {τ1 : gJ} (h : B_X4_tell_0 N σ τ x1 = some (r, σ1, τ1)) : gx_Mv l yX4_tell cX4_tell 3 none 0 gx_tb E σ τ [.ref (E.2.2 + 156), .long x1] (gq_v σ1 τ1) := by
  refine gx_bv (by decide +kernel) (Nat.le_of_ble_eq_true rfl) ?_
  intro P9 e9 s m9 below meth C9 S hr hlk hK hw ls hl
  have hl : lv_has ls 3 [(0, .ref (E.2.2 + 156)), (1, .long x1)] := hl
  exact b_X4_tell_0 l S hr hlk hK N σ τ x1 h hw hl
/-! X11_boat -/
def C_X11_boat_35 (N : Nat) (rec_35 : gI → gJ → Int32 → Int32 → Int32 → Int32 → Option (Int32 × gI × gJ)) (σ : gI) (τ : gJ) (x1 : Int32) (x2 : Int32) (x3 : Int32) (x4 : Int32) : Option (Int32 × gI × gJ) := if 99 < x4 then (some ((-2), σ, τ)) else (bd (B_X11_sailed_0 N σ τ x1 x4 x2 0) fun r_2 σ_2 τ_2 => bd (B_X11_isIn_0 N σ_2 τ_2 r_2 x3) fun r_3 σ_3 τ_3 => if r_3 = 0 then (nm (x4 + 1) fun v_5 => rec_35 σ_3 τ_3 x1 x2 x3 v_5) else (bd (B_X11_minutesOf_0 N σ_3 τ_3 r_2) fun r_6 σ_6 τ_6 => bd (B_X4_tell_0 N σ_6 τ_6 r_6.toInt64) fun _ σ_7 τ_7 => some (x4, σ_7, τ_7)))
def H_X11_boat_35 (N : Nat) : Nat → gI → gJ → Int32 → Int32 → Int32 → Int32 → Option (Int32 × gI × gJ) := itn (fun rec_35 => C_X11_boat_35 N rec_35) (fun _ _ _ _ _ _ => none)
def B_X11_boat_0 (N : Nat) (σ : gI) (τ : gJ) (x1 : Int32) (x2 : Int32) (x3 : Int32) : Option (Int32 × gI × gJ) := bd (B_X8_has_0 N σ τ x1) fun r_1 σ_1 τ_1 => if r_1 = 0 then (some ((-1), σ_1, τ_1)) else (bd (B_X11_isLoad_0 N σ_1 τ_1 0 x2) fun r_3 σ_3 τ_3 => if r_3 = 0 then (some ((-1), σ_3, τ_3)) else (bd (B_X8_isKitchen_0 N σ_3 τ_3 x3) fun r_5 σ_5 τ_5 => if r_5 = 0 then (some ((-1), σ_5, τ_5)) else (H_X11_boat_35 N N σ_5 τ_5 x1 x2 x3 0)))
set_option maxHeartbeats 4000000 in
set_option maxRecDepth 100000 in
theorem k_X11_boat_35 (l : Launch) (S : CallFix P9 m9 C9 cX11_boat 6 s av.toArray gx_G RX11) (hr : meth.sig.returnType = (some .int)) (hlk : meth.locks = false) (hK : gx_K E s) (N : Nat) (rec_35 : gI → gJ → Int32 → Int32 → Int32 → Int32 → Option (Int32 × gI × gJ)) (hrec_35 : ∀ (σ : gI) (τ : gJ) (x1 : Int32) (x2 : Int32) (x3 : Int32) (x4 : Int32) (r : Int32) (σ1 : gI) (τ1 : gJ) (H : Heap) (locs : List Loc) (ls : Array Slot), rec_35 σ τ x1 x2 x3 x4 = some (r, σ1, τ1) → gx_W gx_tb gx_tb.length E s σ τ H locs → lv_has ls 6 [(0, .ref (E.2.2 + 0)), (1, .int x1), (2, .int x2), (3, .int x3), (4, .int x4)] → W P9 l e9 (gx_rm 6) s m9 av.toArray below meth C9 H locs 0 0 (gq_Qi below av s E r σ1 τ1) (F0 m9 35 ls [])) (σ : gI) (τ : gJ) (x1 : Int32) (x2 : Int32) (x3 : Int32) (x4 : Int32) {r : Int32} {σ1 : gI} {τ1 : gJ} (h : C_X11_boat_35 N rec_35 σ τ x1 x2 x3 x4 = some (r, σ1, τ1)) {H : Heap} {locs : List Loc} {ls : Array Slot} (hw : gx_W gx_tb gx_tb.length E s σ τ H locs) (hl : lv_has ls 6 [(0, .ref (E.2.2 + 0)), (1, .int x1), (2, .int x2), (3, .int x3), (4, .int x4)]) : W P9 l e9 (gx_rm 6) s m9 av.toArray below meth C9 H locs 0 0 (gq_Qi below av s E r σ1 τ1) (F0 m9 35 ls []) := by
  have hx := S.1
  have hb := S.2.1
  unfold C_X11_boat_35 at h
  refine lv_iload hx hb dX11_boat_35 (lv_at hl 4 rfl) ?_
  refine lv_bipush (v := 99) hx hb dX11_boat_37 (by decide) ?_
  refine lv_icmp_gt (tgt := 84) hx hb dX11_boat_39 (by decide) (fun c_1 => ?_) (fun c_1 => ?_)
  · rw [if_pos c_1] at h
    refine lv_bipush (v := (-2)) hx hb dX11_boat_84 (by decide) ?_
    obtain ⟨rfl, rfl, rfl⟩ := sm_inj h
    exact gx_ri (post := gq_p (-2) σ τ) (v := (-2)) S hr hlk hw rfl dX11_boat_86 ⟨rfl, rfl, rfl⟩
  · rw [if_neg c_1] at h
    refine lv_aload_n hx hb dX11_boat_42 rfl (lv_at hl 0 rfl) ?_
    refine lv_iload_n hx hb dX11_boat_43 rfl (lv_at hl 1 rfl) ?_
    refine lv_iload hx hb dX11_boat_44 (lv_at hl 4 rfl) ?_
    refine lv_iload_n hx hb dX11_boat_46 rfl (lv_at hl 2 rfl) ?_
    refine lv_iconst (v := 0) hx hb dX11_boat_47 (by decide) ?_
    obtain ⟨r_2, σ_2, τ_2, q_2, h⟩ := bd_some h
    refine gx_cVi (As := [.int x1, .int x4, .int x2, .int 0]) (rest := []) S hK gx_ok hw (c_X11_sailed l (E := E) N σ τ x1 x4 x2 0 q_2) cw_X11_313 t_0 cl_12 ⟨Nat.le_of_ble_eq_true rfl, Nat.le_of_ble_eq_true rfl⟩ rfl hl.1 rfl (Nat.le_of_ble_eq_true rfl) ⟨Nat.le_of_ble_eq_true rfl, Nat.le_of_ble_eq_true rfl⟩ dX11_boat_48 (fun r9 σ9 τ9 H locs hp hw => ?_)
    obtain ⟨rfl, rfl, rfl⟩ := hp
    refine lv_istore (lv' := [(5, .int r_2), (0, .ref (E.2.2 + 0)), (1, .int x1), (2, .int x2), (3, .int x3), (4, .int x4)]) hx hb dX11_boat_51 hl (by decide) rfl (fun ls hl => ?_)
    refine lv_iload hx hb dX11_boat_53 (lv_at hl 0 rfl) ?_
    refine lv_iload_n hx hb dX11_boat_55 rfl (lv_at hl 4 rfl) ?_
    obtain ⟨r_3, σ_3, τ_3, q_3, h⟩ := bd_some h
    refine gx_cSi (As := [.int r_2, .int x3]) (rest := []) S hK gx_ok hw (c_X11_isIn l (E := E) N σ_2 τ_2 r_2 x3 q_3) cw_X11_317 ⟨Nat.le_of_ble_eq_true rfl, Nat.le_of_ble_eq_true rfl⟩ rfl hl.1 rfl (Nat.le_of_ble_eq_true rfl) ⟨Nat.le_of_ble_eq_true rfl, Nat.le_of_ble_eq_true rfl⟩ dX11_boat_56 (fun r9 σ9 τ9 H locs hp hw => ?_)
    obtain ⟨rfl, rfl, rfl⟩ := hp
    refine lv_if_eq (tgt := 78) hx hb dX11_boat_59 (by decide) (fun c_4 => ?_) (fun c_4 => ?_)
    · rw [if_pos c_4] at h
      refine lv_iinc (v := x4 + 1) (lv' := [(4, .int (x4 + 1)), (5, .int r_2), (0, .ref (E.2.2 + 0)), (1, .int x1), (2, .int x2), (3, .int x3)]) hx hb dX11_boat_78 hl (k := 5) rfl rfl (by decide) rfl (fun ls hl => ?_)
      obtain ⟨v_5, e_5, h⟩ := nm_some h
      have hl : lv_has ls 6 [(4, .int v_5), (5, .int r_2), (0, .ref (E.2.2 + 0)), (1, .int x1), (2, .int x2), (3, .int x3)] := by rw [e_5]; exact hl
      refine lv_goto (tgt := 35) hx hb dX11_boat_81 (by decide) ?_
      exact hrec_35 σ_3 τ_3 x1 x2 x3 v_5 _ _ _ _ _ _ h hw (lv_sub hl [2, 3, 4, 5, 0] rfl)
    · rw [if_neg c_4] at h
      refine lv_aload_n hx hb dX11_boat_62 rfl (lv_at hl 1 rfl) ?_
      refine gx_getr (j := 156) S hK hw t_0 cl_12 13 (by decide) rfl mw_460 rfl dX11_boat_63 ?_
      refine lv_iload hx hb dX11_boat_66 (lv_at hl 0 rfl) ?_
      obtain ⟨r_6, σ_6, τ_6, q_6, h⟩ := bd_some h
      refine gx_cSi (As := [.int r_2]) (rest := [.ref (E.2.2 + 156)]) S hK gx_ok hw (c_X11_minutesOf l (E := E) N σ_3 τ_3 r_2 q_6) cw_X11_320 ⟨Nat.le_of_ble_eq_true rfl, Nat.le_of_ble_eq_true rfl⟩ rfl hl.1 rfl (Nat.le_of_ble_eq_true rfl) ⟨Nat.le_of_ble_eq_true rfl, Nat.le_of_ble_eq_true rfl⟩ dX11_boat_68 (fun r9 σ9 τ9 H locs hp hw => ?_)
      obtain ⟨rfl, rfl, rfl⟩ := hp
      refine lv_i2l (v := r_6.toInt64) hx hb dX11_boat_71 rfl ?_
      obtain ⟨u_7, σ_7, τ_7, q_7, h⟩ := bd_some h
      refine gx_cVv (As := [.long r_6.toInt64]) (rest := []) S hK gx_ok hw (c_X4_tell l (E := E) N σ_6 τ_6 r_6.toInt64 q_7) cw_X11_307 t_156 cl_5 ⟨Nat.le_of_ble_eq_true rfl, Nat.le_of_ble_eq_true rfl⟩ rfl hl.1 rfl (Nat.le_of_ble_eq_true rfl) ⟨Nat.le_of_ble_eq_true rfl, Nat.le_of_ble_eq_true rfl⟩ dX11_boat_72 (fun σ9 τ9 H locs hp hw => ?_)
      obtain ⟨rfl, rfl⟩ := hp
      refine lv_iload hx hb dX11_boat_75 (lv_at hl 5 rfl) ?_
      obtain ⟨rfl, rfl, rfl⟩ := sm_inj h
      exact gx_ri (post := gq_p x4 σ_7 τ_7) (v := x4) S hr hlk hw rfl dX11_boat_77 ⟨rfl, rfl, rfl⟩
set_option maxHeartbeats 4000000 in
set_option maxRecDepth 100000 in
theorem h_X11_boat_35 (l : Launch) (S : CallFix P9 m9 C9 cX11_boat 6 s av.toArray gx_G RX11) (hr : meth.sig.returnType = (some .int)) (hlk : meth.locks = false) (hK : gx_K E s) (N : Nat) : ∀ (n : Nat) (σ : gI) (τ : gJ) (x1 : Int32) (x2 : Int32) (x3 : Int32) (x4 : Int32) (r : Int32) (σ1 : gI) (τ1 : gJ), H_X11_boat_35 N n σ τ x1 x2 x3 x4 = some (r, σ1, τ1) → ∀ (H : Heap) (locs : List Loc) (ls : Array Slot), gx_W gx_tb gx_tb.length E s σ τ H locs → lv_has ls 6 [(0, .ref (E.2.2 + 0)), (1, .int x1), (2, .int x2), (3, .int x3), (4, .int x4)] → W P9 l e9 (gx_rm 6) s m9 av.toArray below meth C9 H locs 0 0 (gq_Qi below av s E r σ1 τ1) (F0 m9 35 ls []) := by
  intro n
  induction n with
  | zero => intro σ τ x1 x2 x3 x4 r σ1 τ1 h; cases h
  | succ n ih =>
    intro σ τ x1 x2 x3 x4 r σ1 τ1 h H locs ls hw hl
    exact k_X11_boat_35 l S hr hlk hK N (H_X11_boat_35 N n) (fun σ τ x1 x2 x3 x4 r σ1 τ1 H locs ls h hw hl => ih σ τ x1 x2 x3 x4 r σ1 τ1 h H locs ls hw hl) σ τ x1 x2 x3 x4 h hw hl
set_option maxHeartbeats 4000000 in
set_option maxRecDepth 100000 in
theorem b_X11_boat_0 (l : Launch) (S : CallFix P9 m9 C9 cX11_boat 6 s av.toArray gx_G RX11) (hr : meth.sig.returnType = (some .int)) (hlk : meth.locks = false) (hK : gx_K E s) (N : Nat) (σ : gI) (τ : gJ) (x1 : Int32) (x2 : Int32) (x3 : Int32) {r : Int32} {σ1 : gI} {τ1 : gJ} (h : B_X11_boat_0 N σ τ x1 x2 x3 = some (r, σ1, τ1)) {H : Heap} {locs : List Loc} {ls : Array Slot} (hw : gx_W gx_tb gx_tb.length E s σ τ H locs) (hl : lv_has ls 6 [(0, .ref (E.2.2 + 0)), (1, .int x1), (2, .int x2), (3, .int x3)]) : W P9 l e9 (gx_rm 6) s m9 av.toArray below meth C9 H locs 0 0 (gq_Qi below av s E r σ1 τ1) (F0 m9 0 ls []) := by
  have hx := S.1
  have hb := S.2.1
  unfold B_X11_boat_0 at h
  refine lv_aload_n hx hb dX11_boat_0 rfl (lv_at hl 0 rfl) ?_
  refine gx_getr (j := 3) S hK hw t_0 cl_12 1 (by decide) rfl mw_448 rfl dX11_boat_1 ?_
  refine lv_iload_n hx hb dX11_boat_4 rfl (lv_at hl 1 rfl) ?_
  obtain ⟨r_1, σ_1, τ_1, q_1, h⟩ := bd_some h
  refine gx_cVi (As := [.int x1]) (rest := []) S hK gx_ok hw (c_X8_has l (E := E) N σ τ x1 q_1) cw_X11_137 t_3 cl_9 ⟨Nat.le_of_ble_eq_true rfl, Nat.le_of_ble_eq_true rfl⟩ rfl hl.1 rfl (Nat.le_of_ble_eq_true rfl) ⟨Nat.le_of_ble_eq_true rfl, Nat.le_of_ble_eq_true rfl⟩ dX11_boat_5 (fun r9 σ9 τ9 H locs hp hw => ?_)
  obtain ⟨rfl, rfl, rfl⟩ := hp
  refine lv_if_eq (tgt := 30) hx hb dX11_boat_8 (by decide) (fun c_2 => ?_) (fun c_2 => ?_)
  · rw [if_pos c_2] at h
    refine lv_iconst (v := (-1)) hx hb dX11_boat_30 (by decide) ?_
    obtain ⟨rfl, rfl, rfl⟩ := sm_inj h
    exact gx_ri (post := gq_p (-1) σ_1 τ_1) (v := (-1)) S hr hlk hw rfl dX11_boat_31 ⟨rfl, rfl, rfl⟩
  · rw [if_neg c_2] at h
    refine lv_iconst (v := 0) hx hb dX11_boat_11 (by decide) ?_
    refine lv_iload_n hx hb dX11_boat_12 rfl (lv_at hl 2 rfl) ?_
    obtain ⟨r_3, σ_3, τ_3, q_3, h⟩ := bd_some h
    refine gx_cSi (As := [.int 0, .int x2]) (rest := []) S hK gx_ok hw (c_X11_isLoad l (E := E) N σ_1 τ_1 0 x2 q_3) cw_X11_227 ⟨Nat.le_of_ble_eq_true rfl, Nat.le_of_ble_eq_true rfl⟩ rfl hl.1 rfl (Nat.le_of_ble_eq_true rfl) ⟨Nat.le_of_ble_eq_true rfl, Nat.le_of_ble_eq_true rfl⟩ dX11_boat_13 (fun r9 σ9 τ9 H locs hp hw => ?_)
    obtain ⟨rfl, rfl, rfl⟩ := hp
    refine lv_if_eq (tgt := 30) hx hb dX11_boat_16 (by decide) (fun c_4 => ?_) (fun c_4 => ?_)
    · rw [if_pos c_4] at h
      refine lv_iconst (v := (-1)) hx hb dX11_boat_30 (by decide) ?_
      obtain ⟨rfl, rfl, rfl⟩ := sm_inj h
      exact gx_ri (post := gq_p (-1) σ_3 τ_3) (v := (-1)) S hr hlk hw rfl dX11_boat_31 ⟨rfl, rfl, rfl⟩
    · rw [if_neg c_4] at h
      refine lv_aload_n hx hb dX11_boat_19 rfl (lv_at hl 0 rfl) ?_
      refine gx_getr (j := 3) S hK hw t_0 cl_12 1 (by decide) rfl mw_448 rfl dX11_boat_20 ?_
      refine lv_iload_n hx hb dX11_boat_23 rfl (lv_at hl 3 rfl) ?_
      obtain ⟨r_5, σ_5, τ_5, q_5, h⟩ := bd_some h
      refine gx_cVi (As := [.int x3]) (rest := []) S hK gx_ok hw (c_X8_isKitchen l (E := E) N σ_3 τ_3 x3 q_5) cw_X11_234 t_3 cl_9 ⟨Nat.le_of_ble_eq_true rfl, Nat.le_of_ble_eq_true rfl⟩ rfl hl.1 rfl (Nat.le_of_ble_eq_true rfl) ⟨Nat.le_of_ble_eq_true rfl, Nat.le_of_ble_eq_true rfl⟩ dX11_boat_24 (fun r9 σ9 τ9 H locs hp hw => ?_)
      obtain ⟨rfl, rfl, rfl⟩ := hp
      refine lv_if_ne (tgt := 32) hx hb dX11_boat_27 (by decide) (fun c_6 => ?_) (fun c_6 => ?_)
      · rw [if_neg c_6] at h
        refine lv_iconst (v := 0) hx hb dX11_boat_32 (by decide) ?_
        refine lv_istore (lv' := [(4, .int 0), (0, .ref (E.2.2 + 0)), (1, .int x1), (2, .int x2), (3, .int x3)]) hx hb dX11_boat_33 hl (by decide) rfl (fun ls hl => ?_)
        exact h_X11_boat_35 l S hr hlk hK N N σ_5 τ_5 x1 x2 x3 0 _ _ _ h _ _ _ hw (lv_sub hl [1, 2, 3, 4, 0] rfl)
      · rw [if_pos c_6] at h
        refine lv_iconst (v := (-1)) hx hb dX11_boat_30 (by decide) ?_
        obtain ⟨rfl, rfl, rfl⟩ := sm_inj h
        exact gx_ri (post := gq_p (-1) σ_5 τ_5) (v := (-1)) S hr hlk hw rfl dX11_boat_31 ⟨rfl, rfl, rfl⟩
set_option maxHeartbeats 4000000 in
set_option maxRecDepth 100000 in
theorem c_X11_boat (l : Launch) {E : gE} (N : Nat) (σ : gI) (τ : gJ) (x1 : Int32) (x2 : Int32) (x3 : Int32) {r : Int32} {σ1 : gI} {τ1 : gJ} (h : B_X11_boat_0 N σ τ x1 x2 x3 = some (r, σ1, τ1)) : gx_Mi l yX11_boat cX11_boat 6 (some .int) 6 gx_tb E σ τ [.ref (E.2.2 + 0), .int x1, .int x2, .int x3] (gq_p r σ1 τ1) := by
  refine gx_bi (by decide +kernel) (Nat.le_of_ble_eq_true rfl) ?_
  intro P9 e9 s m9 below meth C9 S hr hlk hK hw ls hl
  have hl : lv_has ls 6 [(0, .ref (E.2.2 + 0)), (1, .int x1), (2, .int x2), (3, .int x3)] := hl
  exact b_X11_boat_0 l S hr hlk hK N σ τ x1 x2 x3 h hw hl
/-! X11_coins -/
def C_X11_coins_35 (N : Nat) (rec_35 : gI → gJ → Int32 → Int32 → Int32 → Int32 → Option (Int32 × gI × gJ)) (σ : gI) (τ : gJ) (x1 : Int32) (x2 : Int32) (x3 : Int32) (x4 : Int32) : Option (Int32 × gI × gJ) := if 9 < x4 then (some ((-2), σ, τ)) else (bd (B_X11_sailed_0 N σ τ x1 x2 x4 0) fun r_2 σ_2 τ_2 => bd (B_X11_isIn_0 N σ_2 τ_2 r_2 x3) fun r_3 σ_3 τ_3 => if r_3 = 0 then (nm (x4 + 1) fun v_5 => rec_35 σ_3 τ_3 x1 x2 x3 v_5) else (bd (B_X11_minutesOf_0 N σ_3 τ_3 r_2) fun r_6 σ_6 τ_6 => bd (B_X4_tell_0 N σ_6 τ_6 r_6.toInt64) fun _ σ_7 τ_7 => some (x4, σ_7, τ_7)))
def H_X11_coins_35 (N : Nat) : Nat → gI → gJ → Int32 → Int32 → Int32 → Int32 → Option (Int32 × gI × gJ) := itn (fun rec_35 => C_X11_coins_35 N rec_35) (fun _ _ _ _ _ _ => none)
def B_X11_coins_0 (N : Nat) (σ : gI) (τ : gJ) (x1 : Int32) (x2 : Int32) (x3 : Int32) : Option (Int32 × gI × gJ) := bd (B_X8_has_0 N σ τ x1) fun r_1 σ_1 τ_1 => if r_1 = 0 then (some ((-1), σ_1, τ_1)) else (bd (B_X11_isLoad_0 N σ_1 τ_1 x2 0) fun r_3 σ_3 τ_3 => if r_3 = 0 then (some ((-1), σ_3, τ_3)) else (bd (B_X8_isKitchen_0 N σ_3 τ_3 x3) fun r_5 σ_5 τ_5 => if r_5 = 0 then (some ((-1), σ_5, τ_5)) else (H_X11_coins_35 N N σ_5 τ_5 x1 x2 x3 0)))
set_option maxHeartbeats 4000000 in
set_option maxRecDepth 100000 in
theorem k_X11_coins_35 (l : Launch) (S : CallFix P9 m9 C9 cX11_coins 6 s av.toArray gx_G RX11) (hr : meth.sig.returnType = (some .int)) (hlk : meth.locks = false) (hK : gx_K E s) (N : Nat) (rec_35 : gI → gJ → Int32 → Int32 → Int32 → Int32 → Option (Int32 × gI × gJ)) (hrec_35 : ∀ (σ : gI) (τ : gJ) (x1 : Int32) (x2 : Int32) (x3 : Int32) (x4 : Int32) (r : Int32) (σ1 : gI) (τ1 : gJ) (H : Heap) (locs : List Loc) (ls : Array Slot), rec_35 σ τ x1 x2 x3 x4 = some (r, σ1, τ1) → gx_W gx_tb gx_tb.length E s σ τ H locs → lv_has ls 6 [(0, .ref (E.2.2 + 0)), (1, .int x1), (2, .int x2), (3, .int x3), (4, .int x4)] → W P9 l e9 (gx_rm 6) s m9 av.toArray below meth C9 H locs 0 0 (gq_Qi below av s E r σ1 τ1) (F0 m9 35 ls [])) (σ : gI) (τ : gJ) (x1 : Int32) (x2 : Int32) (x3 : Int32) (x4 : Int32) {r : Int32} {σ1 : gI} {τ1 : gJ} (h : C_X11_coins_35 N rec_35 σ τ x1 x2 x3 x4 = some (r, σ1, τ1)) {H : Heap} {locs : List Loc} {ls : Array Slot} (hw : gx_W gx_tb gx_tb.length E s σ τ H locs) (hl : lv_has ls 6 [(0, .ref (E.2.2 + 0)), (1, .int x1), (2, .int x2), (3, .int x3), (4, .int x4)]) : W P9 l e9 (gx_rm 6) s m9 av.toArray below meth C9 H locs 0 0 (gq_Qi below av s E r σ1 τ1) (F0 m9 35 ls []) := by
  have hx := S.1
  have hb := S.2.1
  unfold C_X11_coins_35 at h
  refine lv_iload hx hb dX11_coins_35 (lv_at hl 4 rfl) ?_
  refine lv_bipush (v := 9) hx hb dX11_coins_37 (by decide) ?_
  refine lv_icmp_gt (tgt := 84) hx hb dX11_coins_39 (by decide) (fun c_1 => ?_) (fun c_1 => ?_)
  · rw [if_pos c_1] at h
    refine lv_bipush (v := (-2)) hx hb dX11_coins_84 (by decide) ?_
    obtain ⟨rfl, rfl, rfl⟩ := sm_inj h
    exact gx_ri (post := gq_p (-2) σ τ) (v := (-2)) S hr hlk hw rfl dX11_coins_86 ⟨rfl, rfl, rfl⟩
  · rw [if_neg c_1] at h
    refine lv_aload_n hx hb dX11_coins_42 rfl (lv_at hl 0 rfl) ?_
    refine lv_iload_n hx hb dX11_coins_43 rfl (lv_at hl 1 rfl) ?_
    refine lv_iload_n hx hb dX11_coins_44 rfl (lv_at hl 2 rfl) ?_
    refine lv_iload hx hb dX11_coins_45 (lv_at hl 4 rfl) ?_
    refine lv_iconst (v := 0) hx hb dX11_coins_47 (by decide) ?_
    obtain ⟨r_2, σ_2, τ_2, q_2, h⟩ := bd_some h
    refine gx_cVi (As := [.int x1, .int x2, .int x4, .int 0]) (rest := []) S hK gx_ok hw (c_X11_sailed l (E := E) N σ τ x1 x2 x4 0 q_2) cw_X11_313 t_0 cl_12 ⟨Nat.le_of_ble_eq_true rfl, Nat.le_of_ble_eq_true rfl⟩ rfl hl.1 rfl (Nat.le_of_ble_eq_true rfl) ⟨Nat.le_of_ble_eq_true rfl, Nat.le_of_ble_eq_true rfl⟩ dX11_coins_48 (fun r9 σ9 τ9 H locs hp hw => ?_)
    obtain ⟨rfl, rfl, rfl⟩ := hp
    refine lv_istore (lv' := [(5, .int r_2), (0, .ref (E.2.2 + 0)), (1, .int x1), (2, .int x2), (3, .int x3), (4, .int x4)]) hx hb dX11_coins_51 hl (by decide) rfl (fun ls hl => ?_)
    refine lv_iload hx hb dX11_coins_53 (lv_at hl 0 rfl) ?_
    refine lv_iload_n hx hb dX11_coins_55 rfl (lv_at hl 4 rfl) ?_
    obtain ⟨r_3, σ_3, τ_3, q_3, h⟩ := bd_some h
    refine gx_cSi (As := [.int r_2, .int x3]) (rest := []) S hK gx_ok hw (c_X11_isIn l (E := E) N σ_2 τ_2 r_2 x3 q_3) cw_X11_317 ⟨Nat.le_of_ble_eq_true rfl, Nat.le_of_ble_eq_true rfl⟩ rfl hl.1 rfl (Nat.le_of_ble_eq_true rfl) ⟨Nat.le_of_ble_eq_true rfl, Nat.le_of_ble_eq_true rfl⟩ dX11_coins_56 (fun r9 σ9 τ9 H locs hp hw => ?_)
    obtain ⟨rfl, rfl, rfl⟩ := hp
    refine lv_if_eq (tgt := 78) hx hb dX11_coins_59 (by decide) (fun c_4 => ?_) (fun c_4 => ?_)
    · rw [if_pos c_4] at h
      refine lv_iinc (v := x4 + 1) (lv' := [(4, .int (x4 + 1)), (5, .int r_2), (0, .ref (E.2.2 + 0)), (1, .int x1), (2, .int x2), (3, .int x3)]) hx hb dX11_coins_78 hl (k := 5) rfl rfl (by decide) rfl (fun ls hl => ?_)
      obtain ⟨v_5, e_5, h⟩ := nm_some h
      have hl : lv_has ls 6 [(4, .int v_5), (5, .int r_2), (0, .ref (E.2.2 + 0)), (1, .int x1), (2, .int x2), (3, .int x3)] := by rw [e_5]; exact hl
      refine lv_goto (tgt := 35) hx hb dX11_coins_81 (by decide) ?_
      exact hrec_35 σ_3 τ_3 x1 x2 x3 v_5 _ _ _ _ _ _ h hw (lv_sub hl [2, 3, 4, 5, 0] rfl)
    · rw [if_neg c_4] at h
      refine lv_aload_n hx hb dX11_coins_62 rfl (lv_at hl 1 rfl) ?_
      refine gx_getr (j := 156) S hK hw t_0 cl_12 13 (by decide) rfl mw_460 rfl dX11_coins_63 ?_
      refine lv_iload hx hb dX11_coins_66 (lv_at hl 0 rfl) ?_
      obtain ⟨r_6, σ_6, τ_6, q_6, h⟩ := bd_some h
      refine gx_cSi (As := [.int r_2]) (rest := [.ref (E.2.2 + 156)]) S hK gx_ok hw (c_X11_minutesOf l (E := E) N σ_3 τ_3 r_2 q_6) cw_X11_320 ⟨Nat.le_of_ble_eq_true rfl, Nat.le_of_ble_eq_true rfl⟩ rfl hl.1 rfl (Nat.le_of_ble_eq_true rfl) ⟨Nat.le_of_ble_eq_true rfl, Nat.le_of_ble_eq_true rfl⟩ dX11_coins_68 (fun r9 σ9 τ9 H locs hp hw => ?_)
      obtain ⟨rfl, rfl, rfl⟩ := hp
      refine lv_i2l (v := r_6.toInt64) hx hb dX11_coins_71 rfl ?_
      obtain ⟨u_7, σ_7, τ_7, q_7, h⟩ := bd_some h
      refine gx_cVv (As := [.long r_6.toInt64]) (rest := []) S hK gx_ok hw (c_X4_tell l (E := E) N σ_6 τ_6 r_6.toInt64 q_7) cw_X11_307 t_156 cl_5 ⟨Nat.le_of_ble_eq_true rfl, Nat.le_of_ble_eq_true rfl⟩ rfl hl.1 rfl (Nat.le_of_ble_eq_true rfl) ⟨Nat.le_of_ble_eq_true rfl, Nat.le_of_ble_eq_true rfl⟩ dX11_coins_72 (fun σ9 τ9 H locs hp hw => ?_)
      obtain ⟨rfl, rfl⟩ := hp
      refine lv_iload hx hb dX11_coins_75 (lv_at hl 5 rfl) ?_
      obtain ⟨rfl, rfl, rfl⟩ := sm_inj h
      exact gx_ri (post := gq_p x4 σ_7 τ_7) (v := x4) S hr hlk hw rfl dX11_coins_77 ⟨rfl, rfl, rfl⟩
set_option maxHeartbeats 4000000 in
set_option maxRecDepth 100000 in
theorem h_X11_coins_35 (l : Launch) (S : CallFix P9 m9 C9 cX11_coins 6 s av.toArray gx_G RX11) (hr : meth.sig.returnType = (some .int)) (hlk : meth.locks = false) (hK : gx_K E s) (N : Nat) : ∀ (n : Nat) (σ : gI) (τ : gJ) (x1 : Int32) (x2 : Int32) (x3 : Int32) (x4 : Int32) (r : Int32) (σ1 : gI) (τ1 : gJ), H_X11_coins_35 N n σ τ x1 x2 x3 x4 = some (r, σ1, τ1) → ∀ (H : Heap) (locs : List Loc) (ls : Array Slot), gx_W gx_tb gx_tb.length E s σ τ H locs → lv_has ls 6 [(0, .ref (E.2.2 + 0)), (1, .int x1), (2, .int x2), (3, .int x3), (4, .int x4)] → W P9 l e9 (gx_rm 6) s m9 av.toArray below meth C9 H locs 0 0 (gq_Qi below av s E r σ1 τ1) (F0 m9 35 ls []) := by
  intro n
  induction n with
  | zero => intro σ τ x1 x2 x3 x4 r σ1 τ1 h; cases h
  | succ n ih =>
    intro σ τ x1 x2 x3 x4 r σ1 τ1 h H locs ls hw hl
    exact k_X11_coins_35 l S hr hlk hK N (H_X11_coins_35 N n) (fun σ τ x1 x2 x3 x4 r σ1 τ1 H locs ls h hw hl => ih σ τ x1 x2 x3 x4 r σ1 τ1 h H locs ls hw hl) σ τ x1 x2 x3 x4 h hw hl
set_option maxHeartbeats 4000000 in
set_option maxRecDepth 100000 in
theorem b_X11_coins_0 (l : Launch) (S : CallFix P9 m9 C9 cX11_coins 6 s av.toArray gx_G RX11) (hr : meth.sig.returnType = (some .int)) (hlk : meth.locks = false) (hK : gx_K E s) (N : Nat) (σ : gI) (τ : gJ) (x1 : Int32) (x2 : Int32) (x3 : Int32) {r : Int32} {σ1 : gI} {τ1 : gJ} (h : B_X11_coins_0 N σ τ x1 x2 x3 = some (r, σ1, τ1)) {H : Heap} {locs : List Loc} {ls : Array Slot} (hw : gx_W gx_tb gx_tb.length E s σ τ H locs) (hl : lv_has ls 6 [(0, .ref (E.2.2 + 0)), (1, .int x1), (2, .int x2), (3, .int x3)]) : W P9 l e9 (gx_rm 6) s m9 av.toArray below meth C9 H locs 0 0 (gq_Qi below av s E r σ1 τ1) (F0 m9 0 ls []) := by
  have hx := S.1
  have hb := S.2.1
  unfold B_X11_coins_0 at h
  refine lv_aload_n hx hb dX11_coins_0 rfl (lv_at hl 0 rfl) ?_
  refine gx_getr (j := 3) S hK hw t_0 cl_12 1 (by decide) rfl mw_448 rfl dX11_coins_1 ?_
  refine lv_iload_n hx hb dX11_coins_4 rfl (lv_at hl 1 rfl) ?_
  obtain ⟨r_1, σ_1, τ_1, q_1, h⟩ := bd_some h
  refine gx_cVi (As := [.int x1]) (rest := []) S hK gx_ok hw (c_X8_has l (E := E) N σ τ x1 q_1) cw_X11_137 t_3 cl_9 ⟨Nat.le_of_ble_eq_true rfl, Nat.le_of_ble_eq_true rfl⟩ rfl hl.1 rfl (Nat.le_of_ble_eq_true rfl) ⟨Nat.le_of_ble_eq_true rfl, Nat.le_of_ble_eq_true rfl⟩ dX11_coins_5 (fun r9 σ9 τ9 H locs hp hw => ?_)
  obtain ⟨rfl, rfl, rfl⟩ := hp
  refine lv_if_eq (tgt := 30) hx hb dX11_coins_8 (by decide) (fun c_2 => ?_) (fun c_2 => ?_)
  · rw [if_pos c_2] at h
    refine lv_iconst (v := (-1)) hx hb dX11_coins_30 (by decide) ?_
    obtain ⟨rfl, rfl, rfl⟩ := sm_inj h
    exact gx_ri (post := gq_p (-1) σ_1 τ_1) (v := (-1)) S hr hlk hw rfl dX11_coins_31 ⟨rfl, rfl, rfl⟩
  · rw [if_neg c_2] at h
    refine lv_iload_n hx hb dX11_coins_11 rfl (lv_at hl 2 rfl) ?_
    refine lv_iconst (v := 0) hx hb dX11_coins_12 (by decide) ?_
    obtain ⟨r_3, σ_3, τ_3, q_3, h⟩ := bd_some h
    refine gx_cSi (As := [.int x2, .int 0]) (rest := []) S hK gx_ok hw (c_X11_isLoad l (E := E) N σ_1 τ_1 x2 0 q_3) cw_X11_227 ⟨Nat.le_of_ble_eq_true rfl, Nat.le_of_ble_eq_true rfl⟩ rfl hl.1 rfl (Nat.le_of_ble_eq_true rfl) ⟨Nat.le_of_ble_eq_true rfl, Nat.le_of_ble_eq_true rfl⟩ dX11_coins_13 (fun r9 σ9 τ9 H locs hp hw => ?_)
    obtain ⟨rfl, rfl, rfl⟩ := hp
    refine lv_if_eq (tgt := 30) hx hb dX11_coins_16 (by decide) (fun c_4 => ?_) (fun c_4 => ?_)
    · rw [if_pos c_4] at h
      refine lv_iconst (v := (-1)) hx hb dX11_coins_30 (by decide) ?_
      obtain ⟨rfl, rfl, rfl⟩ := sm_inj h
      exact gx_ri (post := gq_p (-1) σ_3 τ_3) (v := (-1)) S hr hlk hw rfl dX11_coins_31 ⟨rfl, rfl, rfl⟩
    · rw [if_neg c_4] at h
      refine lv_aload_n hx hb dX11_coins_19 rfl (lv_at hl 0 rfl) ?_
      refine gx_getr (j := 3) S hK hw t_0 cl_12 1 (by decide) rfl mw_448 rfl dX11_coins_20 ?_
      refine lv_iload_n hx hb dX11_coins_23 rfl (lv_at hl 3 rfl) ?_
      obtain ⟨r_5, σ_5, τ_5, q_5, h⟩ := bd_some h
      refine gx_cVi (As := [.int x3]) (rest := []) S hK gx_ok hw (c_X8_isKitchen l (E := E) N σ_3 τ_3 x3 q_5) cw_X11_234 t_3 cl_9 ⟨Nat.le_of_ble_eq_true rfl, Nat.le_of_ble_eq_true rfl⟩ rfl hl.1 rfl (Nat.le_of_ble_eq_true rfl) ⟨Nat.le_of_ble_eq_true rfl, Nat.le_of_ble_eq_true rfl⟩ dX11_coins_24 (fun r9 σ9 τ9 H locs hp hw => ?_)
      obtain ⟨rfl, rfl, rfl⟩ := hp
      refine lv_if_ne (tgt := 32) hx hb dX11_coins_27 (by decide) (fun c_6 => ?_) (fun c_6 => ?_)
      · rw [if_neg c_6] at h
        refine lv_iconst (v := 0) hx hb dX11_coins_32 (by decide) ?_
        refine lv_istore (lv' := [(4, .int 0), (0, .ref (E.2.2 + 0)), (1, .int x1), (2, .int x2), (3, .int x3)]) hx hb dX11_coins_33 hl (by decide) rfl (fun ls hl => ?_)
        exact h_X11_coins_35 l S hr hlk hK N N σ_5 τ_5 x1 x2 x3 0 _ _ _ h _ _ _ hw (lv_sub hl [1, 2, 3, 4, 0] rfl)
      · rw [if_pos c_6] at h
        refine lv_iconst (v := (-1)) hx hb dX11_coins_30 (by decide) ?_
        obtain ⟨rfl, rfl, rfl⟩ := sm_inj h
        exact gx_ri (post := gq_p (-1) σ_5 τ_5) (v := (-1)) S hr hlk hw rfl dX11_coins_31 ⟨rfl, rfl, rfl⟩
set_option maxHeartbeats 4000000 in
set_option maxRecDepth 100000 in
theorem c_X11_coins (l : Launch) {E : gE} (N : Nat) (σ : gI) (τ : gJ) (x1 : Int32) (x2 : Int32) (x3 : Int32) {r : Int32} {σ1 : gI} {τ1 : gJ} (h : B_X11_coins_0 N σ τ x1 x2 x3 = some (r, σ1, τ1)) : gx_Mi l yX11_coins cX11_coins 6 (some .int) 6 gx_tb E σ τ [.ref (E.2.2 + 0), .int x1, .int x2, .int x3] (gq_p r σ1 τ1) := by
  refine gx_bi (by decide +kernel) (Nat.le_of_ble_eq_true rfl) ?_
  intro P9 e9 s m9 below meth C9 S hr hlk hK hw ls hl
  have hl : lv_has ls 6 [(0, .ref (E.2.2 + 0)), (1, .int x1), (2, .int x2), (3, .int x3)] := hl
  exact b_X11_coins_0 l S hr hlk hK N σ τ x1 x2 x3 h hw hl
/-! X6_has -/
def B_X6_has_0 (N : Nat) (c : Nat) (σ : gI) (τ : gJ) (x1 : Int32) : Option (Int32 × gI × gJ) := if x1 < 0 then (some (0, σ, τ)) else (if σ c 6 ≤ x1 then (some (0, σ, τ)) else (some (1, σ, τ)))
set_option maxHeartbeats 4000000 in
set_option maxRecDepth 100000 in
theorem b_X6_has_0 (l : Launch) (S : CallFix P9 m9 C9 cX6_has 2 s av.toArray gx_G RX6) (hr : meth.sig.returnType = (some .boolean)) (hlk : meth.locks = false) (hK : gx_K E s) (N : Nat) (c : Nat) (tc : gx_isS c) (σ : gI) (τ : gJ) (x1 : Int32) {r : Int32} {σ1 : gI} {τ1 : gJ} (h : B_X6_has_0 N c σ τ x1 = some (r, σ1, τ1)) {H : Heap} {locs : List Loc} {ls : Array Slot} (hw : gx_W gx_tb gx_tb.length E s σ τ H locs) (hl : lv_has ls 2 [(0, .ref (E.2.2 + c)), (1, .int x1)]) : W P9 l e9 (gx_rm 0) s m9 av.toArray below meth C9 H locs 0 0 (gq_Qi below av s E r σ1 τ1) (F0 m9 0 ls []) := by
  have hx := S.1
  have hb := S.2.1
  unfold B_X6_has_0 at h
  refine lv_iload_n hx hb dX6_has_0 rfl (lv_at hl 1 rfl) ?_
  refine lv_if_lt (tgt := 16) hx hb dX6_has_1 (by decide) (fun c_1 => ?_) (fun c_1 => ?_)
  · rw [if_pos c_1] at h
    refine lv_iconst (v := 0) hx hb dX6_has_16 (by decide) ?_
    obtain ⟨rfl, rfl, rfl⟩ := sm_inj h
    exact gx_ri (post := gq_p 0 σ τ) (v := 0) S hr hlk hw rfl dX6_has_17 ⟨rfl, rfl, rfl⟩
  · rw [if_neg c_1] at h
    refine lv_iload_n hx hb dX6_has_4 rfl (lv_at hl 1 rfl) ?_
    refine lv_aload_n hx hb dX6_has_5 rfl (lv_at hl 0 rfl) ?_
    refine gx_get S hK hw tc.1 cl_7 6 (by decide) rfl mw_270 rfl dX6_has_6 ?_
    refine lv_icmp_ge (tgt := 16) hx hb dX6_has_9 (by decide) (fun c_2 => ?_) (fun c_2 => ?_)
    · rw [if_pos c_2] at h
      refine lv_iconst (v := 0) hx hb dX6_has_16 (by decide) ?_
      obtain ⟨rfl, rfl, rfl⟩ := sm_inj h
      exact gx_ri (post := gq_p 0 σ τ) (v := 0) S hr hlk hw rfl dX6_has_17 ⟨rfl, rfl, rfl⟩
    · rw [if_neg c_2] at h
      refine lv_iconst (v := 1) hx hb dX6_has_12 (by decide) ?_
      refine lv_goto (tgt := 17) hx hb dX6_has_13 (by decide) ?_
      obtain ⟨rfl, rfl, rfl⟩ := sm_inj h
      exact gx_ri (post := gq_p 1 σ τ) (v := 1) S hr hlk hw rfl dX6_has_17 ⟨rfl, rfl, rfl⟩
set_option maxHeartbeats 4000000 in
set_option maxRecDepth 100000 in
theorem c_X6_has (l : Launch) {E : gE} (N : Nat) (c : Nat) (tc : gx_isS c) (σ : gI) (τ : gJ) (x1 : Int32) {r : Int32} {σ1 : gI} {τ1 : gJ} (h : B_X6_has_0 N c σ τ x1 = some (r, σ1, τ1)) : gx_Mi l yX6_has cX6_has 2 (some .boolean) 0 gx_tb E σ τ [.ref (E.2.2 + c), .int x1] (gq_p r σ1 τ1) := by
  refine gx_bi (by decide +kernel) (Nat.le_of_ble_eq_true rfl) ?_
  intro P9 e9 s m9 below meth C9 S hr hlk hK hw ls hl
  have hl : lv_has ls 2 [(0, .ref (E.2.2 + c)), (1, .int x1)] := hl
  exact b_X6_has_0 l S hr hlk hK N c tc σ τ x1 h hw hl
/-! X6_isOnWay -/
def B_X6_isOnWay_0 (N : Nat) (c : Nat) (σ : gI) (τ : gJ) (x1 : Int32) : Option (Int32 × gI × gJ) := if x1 < 0 then (some (0, σ, τ)) else (if σ c 6 ≤ x1 then (some (0, σ, τ)) else (if (((σ c 9) ||| (σ c 10)) >>> (x1 &&& 31)) &&& 1 = 0 then (some (1, σ, τ)) else (some (0, σ, τ))))
set_option maxHeartbeats 4000000 in
set_option maxRecDepth 100000 in
theorem b_X6_isOnWay_0 (l : Launch) (S : CallFix P9 m9 C9 cX6_isOnWay 2 s av.toArray gx_G RX6) (hr : meth.sig.returnType = (some .boolean)) (hlk : meth.locks = false) (hK : gx_K E s) (N : Nat) (c : Nat) (tc : gx_isS c) (σ : gI) (τ : gJ) (x1 : Int32) {r : Int32} {σ1 : gI} {τ1 : gJ} (h : B_X6_isOnWay_0 N c σ τ x1 = some (r, σ1, τ1)) {H : Heap} {locs : List Loc} {ls : Array Slot} (hw : gx_W gx_tb gx_tb.length E s σ τ H locs) (hl : lv_has ls 2 [(0, .ref (E.2.2 + c)), (1, .int x1)]) : W P9 l e9 (gx_rm 0) s m9 av.toArray below meth C9 H locs 0 0 (gq_Qi below av s E r σ1 τ1) (F0 m9 0 ls []) := by
  have hx := S.1
  have hb := S.2.1
  unfold B_X6_isOnWay_0 at h
  refine lv_iload_n hx hb dX6_isOnWay_0 rfl (lv_at hl 1 rfl) ?_
  refine lv_if_lt (tgt := 32) hx hb dX6_isOnWay_1 (by decide) (fun c_1 => ?_) (fun c_1 => ?_)
  · rw [if_pos c_1] at h
    refine lv_iconst (v := 0) hx hb dX6_isOnWay_32 (by decide) ?_
    obtain ⟨rfl, rfl, rfl⟩ := sm_inj h
    exact gx_ri (post := gq_p 0 σ τ) (v := 0) S hr hlk hw rfl dX6_isOnWay_33 ⟨rfl, rfl, rfl⟩
  · rw [if_neg c_1] at h
    refine lv_iload_n hx hb dX6_isOnWay_4 rfl (lv_at hl 1 rfl) ?_
    refine lv_aload_n hx hb dX6_isOnWay_5 rfl (lv_at hl 0 rfl) ?_
    refine gx_get S hK hw tc.1 cl_7 6 (by decide) rfl mw_270 rfl dX6_isOnWay_6 ?_
    refine lv_icmp_ge (tgt := 32) hx hb dX6_isOnWay_9 (by decide) (fun c_2 => ?_) (fun c_2 => ?_)
    · rw [if_pos c_2] at h
      refine lv_iconst (v := 0) hx hb dX6_isOnWay_32 (by decide) ?_
      obtain ⟨rfl, rfl, rfl⟩ := sm_inj h
      exact gx_ri (post := gq_p 0 σ τ) (v := 0) S hr hlk hw rfl dX6_isOnWay_33 ⟨rfl, rfl, rfl⟩
    · rw [if_neg c_2] at h
      refine lv_aload_n hx hb dX6_isOnWay_12 rfl (lv_at hl 0 rfl) ?_
      refine gx_get S hK hw tc.1 cl_7 9 (by decide) rfl mw_281 rfl dX6_isOnWay_13 ?_
      refine lv_aload_n hx hb dX6_isOnWay_16 rfl (lv_at hl 0 rfl) ?_
      refine gx_get S hK hw tc.1 cl_7 10 (by decide) rfl mw_284 rfl dX6_isOnWay_17 ?_
      refine lv_ior hx hb dX6_isOnWay_20 ?_
      refine lv_iload_n hx hb dX6_isOnWay_21 rfl (lv_at hl 1 rfl) ?_
      refine lv_ishr hx hb dX6_isOnWay_22 ?_
      refine lv_iconst (v := 1) hx hb dX6_isOnWay_23 (by decide) ?_
      refine lv_iand hx hb dX6_isOnWay_24 ?_
      refine lv_if_ne (tgt := 32) hx hb dX6_isOnWay_25 (by decide) (fun c_3 => ?_) (fun c_3 => ?_)
      · rw [if_neg c_3] at h
        refine lv_iconst (v := 0) hx hb dX6_isOnWay_32 (by decide) ?_
        obtain ⟨rfl, rfl, rfl⟩ := sm_inj h
        exact gx_ri (post := gq_p 0 σ τ) (v := 0) S hr hlk hw rfl dX6_isOnWay_33 ⟨rfl, rfl, rfl⟩
      · rw [if_pos c_3] at h
        refine lv_iconst (v := 1) hx hb dX6_isOnWay_28 (by decide) ?_
        refine lv_goto (tgt := 33) hx hb dX6_isOnWay_29 (by decide) ?_
        obtain ⟨rfl, rfl, rfl⟩ := sm_inj h
        exact gx_ri (post := gq_p 1 σ τ) (v := 1) S hr hlk hw rfl dX6_isOnWay_33 ⟨rfl, rfl, rfl⟩
set_option maxHeartbeats 4000000 in
set_option maxRecDepth 100000 in
theorem c_X6_isOnWay (l : Launch) {E : gE} (N : Nat) (c : Nat) (tc : gx_isS c) (σ : gI) (τ : gJ) (x1 : Int32) {r : Int32} {σ1 : gI} {τ1 : gJ} (h : B_X6_isOnWay_0 N c σ τ x1 = some (r, σ1, τ1)) : gx_Mi l yX6_isOnWay cX6_isOnWay 2 (some .boolean) 0 gx_tb E σ τ [.ref (E.2.2 + c), .int x1] (gq_p r σ1 τ1) := by
  refine gx_bi (by decide +kernel) (Nat.le_of_ble_eq_true rfl) ?_
  intro P9 e9 s m9 below meth C9 S hr hlk hK hw ls hl
  have hl : lv_has ls 2 [(0, .ref (E.2.2 + c)), (1, .int x1)] := hl
  exact b_X6_isOnWay_0 l S hr hlk hK N c tc σ τ x1 h hw hl
/-! X9_settle -/
def C_X9_settle_10 (N : Nat) (rec_10 : gI → gJ → Int32 → Int32 → Option (Int32 × gI × gJ)) (σ : gI) (τ : gJ) (x2 : Int32) (x3 : Int32) : Option (Int32 × gI × gJ) := if 300 ≤ x3 then (some (300, σ, τ)) else (bd (B_X6_isOnWay_0 N 171 σ τ x2) fun r_2 σ_2 τ_2 => if r_2 = 0 then (some (x3, σ_2, τ_2)) else (bd (B_X1_pass_0 N 171 σ_2 τ_2) fun _ σ_4 τ_4 => nm (x3 + 1) fun v_5 => rec_10 σ_4 τ_4 x2 v_5))
def H_X9_settle_10 (N : Nat) : Nat → gI → gJ → Int32 → Int32 → Option (Int32 × gI × gJ) := itn (fun rec_10 => C_X9_settle_10 N rec_10) (fun _ _ _ _ => none)
def B_X9_settle_0 (N : Nat) (σ : gI) (τ : gJ) (x2 : Int32) : Option (Int32 × gI × gJ) := bd (B_X6_copy_0 N 171 30 σ τ) fun _ σ_1 τ_1 => H_X9_settle_10 N N σ_1 τ_1 x2 0
set_option maxHeartbeats 4000000 in
set_option maxRecDepth 100000 in
theorem k_X9_settle_10 (l : Launch) (S : CallFix P9 m9 C9 cX9_settle 4 s av.toArray gx_G RX9) (hr : meth.sig.returnType = (some .int)) (hlk : meth.locks = false) (hK : gx_K E s) (N : Nat) (rec_10 : gI → gJ → Int32 → Int32 → Option (Int32 × gI × gJ)) (hrec_10 : ∀ (σ : gI) (τ : gJ) (x2 : Int32) (x3 : Int32) (r : Int32) (σ1 : gI) (τ1 : gJ) (H : Heap) (locs : List Loc) (ls : Array Slot), rec_10 σ τ x2 x3 = some (r, σ1, τ1) → gx_W gx_tb gx_tb.length E s σ τ H locs → lv_has ls 4 [(0, .ref (E.2.2 + 160)), (2, .int x2), (3, .int x3)] → W P9 l e9 (gx_rm 4) s m9 av.toArray below meth C9 H locs 0 0 (gq_Qi below av s E r σ1 τ1) (F0 m9 10 ls [])) (σ : gI) (τ : gJ) (x2 : Int32) (x3 : Int32) {r : Int32} {σ1 : gI} {τ1 : gJ} (h : C_X9_settle_10 N rec_10 σ τ x2 x3 = some (r, σ1, τ1)) {H : Heap} {locs : List Loc} {ls : Array Slot} (hw : gx_W gx_tb gx_tb.length E s σ τ H locs) (hl : lv_has ls 4 [(0, .ref (E.2.2 + 160)), (2, .int x2), (3, .int x3)]) : W P9 l e9 (gx_rm 4) s m9 av.toArray below meth C9 H locs 0 0 (gq_Qi below av s E r σ1 τ1) (F0 m9 10 ls []) := by
  have hx := S.1
  have hb := S.2.1
  unfold C_X9_settle_10 at h
  refine lv_iload_n hx hb dX9_settle_10 rfl (lv_at hl 2 rfl) ?_
  refine lv_sipush (v := 300) hx hb dX9_settle_11 (by decide) ?_
  refine lv_icmp_ge (tgt := 47) hx hb dX9_settle_14 (by decide) (fun c_1 => ?_) (fun c_1 => ?_)
  · rw [if_pos c_1] at h
    refine lv_sipush (v := 300) hx hb dX9_settle_47 (by decide) ?_
    obtain ⟨rfl, rfl, rfl⟩ := sm_inj h
    exact gx_ri (post := gq_p 300 σ τ) (v := 300) S hr hlk hw rfl dX9_settle_50 ⟨rfl, rfl, rfl⟩
  · rw [if_neg c_1] at h
    refine lv_aload_n hx hb dX9_settle_17 rfl (lv_at hl 0 rfl) ?_
    refine gx_getr (j := 171) S hK hw t_160 cl_10 8 (by decide) rfl mw_425 rfl dX9_settle_18 ?_
    refine lv_iload_n hx hb dX9_settle_21 rfl (lv_at hl 1 rfl) ?_
    obtain ⟨r_2, σ_2, τ_2, q_2, h⟩ := bd_some h
    refine gx_cVi (As := [.int x2]) (rest := []) S hK gx_ok hw (c_X6_isOnWay l (E := E) N 171 is_171 σ τ x2 q_2) cw_X9_112 t_171 cl_7 ⟨Nat.le_of_ble_eq_true rfl, Nat.le_of_ble_eq_true rfl⟩ rfl hl.1 rfl (Nat.le_of_ble_eq_true rfl) ⟨Nat.le_of_ble_eq_true rfl, Nat.le_of_ble_eq_true rfl⟩ dX9_settle_22 (fun r9 σ9 τ9 H locs hp hw => ?_)
    obtain ⟨rfl, rfl, rfl⟩ := hp
    refine lv_if_ne (tgt := 30) hx hb dX9_settle_25 (by decide) (fun c_3 => ?_) (fun c_3 => ?_)
    · rw [if_neg c_3] at h
      refine lv_aload_n hx hb dX9_settle_30 rfl (lv_at hl 0 rfl) ?_
      refine gx_getr (j := 158) S hK hw t_160 cl_10 1 (by decide) rfl mw_417 rfl dX9_settle_31 ?_
      refine lv_aload_n hx hb dX9_settle_34 rfl (lv_at hl 0 rfl) ?_
      refine gx_getr (j := 171) S hK hw t_160 cl_10 8 (by decide) rfl mw_425 rfl dX9_settle_35 ?_
      obtain ⟨u_4, σ_4, τ_4, q_4, h⟩ := bd_some h
      refine gx_cVv (As := [.ref (E.2.2 + 171)]) (rest := []) S hK gx_ok hw (c_X1_pass l (E := E) N 171 is_171 σ_2 τ_2 q_4) cw_X9_105 t_158 cl_2 ⟨Nat.le_of_ble_eq_true rfl, Nat.le_of_ble_eq_true rfl⟩ rfl hl.1 rfl (Nat.le_of_ble_eq_true rfl) ⟨Nat.le_of_ble_eq_true rfl, Nat.le_of_ble_eq_true rfl⟩ dX9_settle_38 (fun σ9 τ9 H locs hp hw => ?_)
      obtain ⟨rfl, rfl⟩ := hp
      refine lv_iinc (v := x3 + 1) (lv' := [(3, .int (x3 + 1)), (0, .ref (E.2.2 + 160)), (2, .int x2)]) hx hb dX9_settle_41 hl (k := 2) rfl rfl (by decide) rfl (fun ls hl => ?_)
      obtain ⟨v_5, e_5, h⟩ := nm_some h
      have hl : lv_has ls 4 [(3, .int v_5), (0, .ref (E.2.2 + 160)), (2, .int x2)] := by rw [e_5]; exact hl
      refine lv_goto (tgt := 10) hx hb dX9_settle_44 (by decide) ?_
      exact hrec_10 σ_4 τ_4 x2 v_5 _ _ _ _ _ _ h hw (lv_sub hl [1, 2, 0] rfl)
    · rw [if_pos c_3] at h
      refine lv_iload_n hx hb dX9_settle_28 rfl (lv_at hl 2 rfl) ?_
      obtain ⟨rfl, rfl, rfl⟩ := sm_inj h
      exact gx_ri (post := gq_p x3 σ_2 τ_2) (v := x3) S hr hlk hw rfl dX9_settle_29 ⟨rfl, rfl, rfl⟩
set_option maxHeartbeats 4000000 in
set_option maxRecDepth 100000 in
theorem h_X9_settle_10 (l : Launch) (S : CallFix P9 m9 C9 cX9_settle 4 s av.toArray gx_G RX9) (hr : meth.sig.returnType = (some .int)) (hlk : meth.locks = false) (hK : gx_K E s) (N : Nat) : ∀ (n : Nat) (σ : gI) (τ : gJ) (x2 : Int32) (x3 : Int32) (r : Int32) (σ1 : gI) (τ1 : gJ), H_X9_settle_10 N n σ τ x2 x3 = some (r, σ1, τ1) → ∀ (H : Heap) (locs : List Loc) (ls : Array Slot), gx_W gx_tb gx_tb.length E s σ τ H locs → lv_has ls 4 [(0, .ref (E.2.2 + 160)), (2, .int x2), (3, .int x3)] → W P9 l e9 (gx_rm 4) s m9 av.toArray below meth C9 H locs 0 0 (gq_Qi below av s E r σ1 τ1) (F0 m9 10 ls []) := by
  intro n
  induction n with
  | zero => intro σ τ x2 x3 r σ1 τ1 h; cases h
  | succ n ih =>
    intro σ τ x2 x3 r σ1 τ1 h H locs ls hw hl
    exact k_X9_settle_10 l S hr hlk hK N (H_X9_settle_10 N n) (fun σ τ x2 x3 r σ1 τ1 H locs ls h hw hl => ih σ τ x2 x3 r σ1 τ1 h H locs ls hw hl) σ τ x2 x3 h hw hl
set_option maxHeartbeats 4000000 in
set_option maxRecDepth 100000 in
theorem b_X9_settle_0 (l : Launch) (S : CallFix P9 m9 C9 cX9_settle 4 s av.toArray gx_G RX9) (hr : meth.sig.returnType = (some .int)) (hlk : meth.locks = false) (hK : gx_K E s) (N : Nat) (σ : gI) (τ : gJ) (x2 : Int32) {r : Int32} {σ1 : gI} {τ1 : gJ} (h : B_X9_settle_0 N σ τ x2 = some (r, σ1, τ1)) {H : Heap} {locs : List Loc} {ls : Array Slot} (hw : gx_W gx_tb gx_tb.length E s σ τ H locs) (hl : lv_has ls 4 [(0, .ref (E.2.2 + 160)), (1, .ref (E.2.2 + 30)), (2, .int x2)]) : W P9 l e9 (gx_rm 4) s m9 av.toArray below meth C9 H locs 0 0 (gq_Qi below av s E r σ1 τ1) (F0 m9 0 ls []) := by
  have hx := S.1
  have hb := S.2.1
  unfold B_X9_settle_0 at h
  refine lv_aload_n hx hb dX9_settle_0 rfl (lv_at hl 0 rfl) ?_
  refine gx_getr (j := 171) S hK hw t_160 cl_10 8 (by decide) rfl mw_425 rfl dX9_settle_1 ?_
  refine lv_aload_n hx hb dX9_settle_4 rfl (lv_at hl 1 rfl) ?_
  obtain ⟨u_1, σ_1, τ_1, q_1, h⟩ := bd_some h
  refine gx_cVv (As := [.ref (E.2.2 + 30)]) (rest := []) S hK gx_ok hw (c_X6_copy l (E := E) N 171 30 is_171 is_30 σ τ q_1) cw_X9_63 t_171 cl_7 ⟨Nat.le_of_ble_eq_true rfl, Nat.le_of_ble_eq_true rfl⟩ rfl hl.1 rfl (Nat.le_of_ble_eq_true rfl) ⟨Nat.le_of_ble_eq_true rfl, Nat.le_of_ble_eq_true rfl⟩ dX9_settle_5 (fun σ9 τ9 H locs hp hw => ?_)
  obtain ⟨rfl, rfl⟩ := hp
  refine lv_iconst (v := 0) hx hb dX9_settle_8 (by decide) ?_
  refine lv_istore_n (lv' := [(3, .int 0), (0, .ref (E.2.2 + 160)), (1, .ref (E.2.2 + 30)), (2, .int x2)]) hx hb dX9_settle_9 rfl hl (by decide) rfl (fun ls hl => ?_)
  exact h_X9_settle_10 l S hr hlk hK N N σ_1 τ_1 x2 0 _ _ _ h _ _ _ hw (lv_sub hl [1, 3, 0] rfl)
set_option maxHeartbeats 4000000 in
set_option maxRecDepth 100000 in
theorem c_X9_settle (l : Launch) {E : gE} (N : Nat) (σ : gI) (τ : gJ) (x2 : Int32) {r : Int32} {σ1 : gI} {τ1 : gJ} (h : B_X9_settle_0 N σ τ x2 = some (r, σ1, τ1)) : gx_Mi l yX9_settle cX9_settle 4 (some .int) 4 gx_tb E σ τ [.ref (E.2.2 + 160), .ref (E.2.2 + 30), .int x2] (gq_p r σ1 τ1) := by
  refine gx_bi (by decide +kernel) (Nat.le_of_ble_eq_true rfl) ?_
  intro P9 e9 s m9 below meth C9 S hr hlk hK hw ls hl
  have hl : lv_has ls 4 [(0, .ref (E.2.2 + 160)), (1, .ref (E.2.2 + 30)), (2, .int x2)] := hl
  exact b_X9_settle_0 l S hr hlk hK N σ τ x2 h hw hl
/-! X6_fateOf -/
def B_X6_fateOf_0 (N : Nat) (c : Nat) (σ : gI) (τ : gJ) (x1 : Int32) : Option (Int32 × gI × gJ) := if ((σ c 9) >>> (x1 &&& 31)) &&& 1 = 0 then (if ((σ c 10) >>> (x1 &&& 31)) &&& 1 = 0 then (some (0, σ, τ)) else (some (2, σ, τ))) else (some (1, σ, τ))
set_option maxHeartbeats 4000000 in
set_option maxRecDepth 100000 in
theorem b_X6_fateOf_0 (l : Launch) (S : CallFix P9 m9 C9 cX6_fateOf 2 s av.toArray gx_G RX6) (hr : meth.sig.returnType = (some .int)) (hlk : meth.locks = false) (hK : gx_K E s) (N : Nat) (c : Nat) (tc : gx_isS c) (σ : gI) (τ : gJ) (x1 : Int32) {r : Int32} {σ1 : gI} {τ1 : gJ} (h : B_X6_fateOf_0 N c σ τ x1 = some (r, σ1, τ1)) {H : Heap} {locs : List Loc} {ls : Array Slot} (hw : gx_W gx_tb gx_tb.length E s σ τ H locs) (hl : lv_has ls 2 [(0, .ref (E.2.2 + c)), (1, .int x1)]) : W P9 l e9 (gx_rm 0) s m9 av.toArray below meth C9 H locs 0 0 (gq_Qi below av s E r σ1 τ1) (F0 m9 0 ls []) := by
  have hx := S.1
  have hb := S.2.1
  unfold B_X6_fateOf_0 at h
  refine lv_aload_n hx hb dX6_fateOf_0 rfl (lv_at hl 0 rfl) ?_
  refine gx_get S hK hw tc.1 cl_7 9 (by decide) rfl mw_281 rfl dX6_fateOf_1 ?_
  refine lv_iload_n hx hb dX6_fateOf_4 rfl (lv_at hl 1 rfl) ?_
  refine lv_ishr hx hb dX6_fateOf_5 ?_
  refine lv_iconst (v := 1) hx hb dX6_fateOf_6 (by decide) ?_
  refine lv_iand hx hb dX6_fateOf_7 ?_
  refine lv_if_eq (tgt := 13) hx hb dX6_fateOf_8 (by decide) (fun c_1 => ?_) (fun c_1 => ?_)
  · rw [if_pos c_1] at h
    refine lv_aload_n hx hb dX6_fateOf_13 rfl (lv_at hl 0 rfl) ?_
    refine gx_get S hK hw tc.1 cl_7 10 (by decide) rfl mw_284 rfl dX6_fateOf_14 ?_
    refine lv_iload_n hx hb dX6_fateOf_17 rfl (lv_at hl 1 rfl) ?_
    refine lv_ishr hx hb dX6_fateOf_18 ?_
    refine lv_iconst (v := 1) hx hb dX6_fateOf_19 (by decide) ?_
    refine lv_iand hx hb dX6_fateOf_20 ?_
    refine lv_if_eq (tgt := 28) hx hb dX6_fateOf_21 (by decide) (fun c_2 => ?_) (fun c_2 => ?_)
    · rw [if_pos c_2] at h
      refine lv_iconst (v := 0) hx hb dX6_fateOf_28 (by decide) ?_
      obtain ⟨rfl, rfl, rfl⟩ := sm_inj h
      exact gx_ri (post := gq_p 0 σ τ) (v := 0) S hr hlk hw rfl dX6_fateOf_29 ⟨rfl, rfl, rfl⟩
    · rw [if_neg c_2] at h
      refine lv_iconst (v := 2) hx hb dX6_fateOf_24 (by decide) ?_
      refine lv_goto (tgt := 29) hx hb dX6_fateOf_25 (by decide) ?_
      obtain ⟨rfl, rfl, rfl⟩ := sm_inj h
      exact gx_ri (post := gq_p 2 σ τ) (v := 2) S hr hlk hw rfl dX6_fateOf_29 ⟨rfl, rfl, rfl⟩
  · rw [if_neg c_1] at h
    refine lv_iconst (v := 1) hx hb dX6_fateOf_11 (by decide) ?_
    obtain ⟨rfl, rfl, rfl⟩ := sm_inj h
    exact gx_ri (post := gq_p 1 σ τ) (v := 1) S hr hlk hw rfl dX6_fateOf_12 ⟨rfl, rfl, rfl⟩
set_option maxHeartbeats 4000000 in
set_option maxRecDepth 100000 in
theorem c_X6_fateOf (l : Launch) {E : gE} (N : Nat) (c : Nat) (tc : gx_isS c) (σ : gI) (τ : gJ) (x1 : Int32) {r : Int32} {σ1 : gI} {τ1 : gJ} (h : B_X6_fateOf_0 N c σ τ x1 = some (r, σ1, τ1)) : gx_Mi l yX6_fateOf cX6_fateOf 2 (some .int) 0 gx_tb E σ τ [.ref (E.2.2 + c), .int x1] (gq_p r σ1 τ1) := by
  refine gx_bi (by decide +kernel) (Nat.le_of_ble_eq_true rfl) ?_
  intro P9 e9 s m9 below meth C9 S hr hlk hK hw ls hl
  have hl : lv_has ls 2 [(0, .ref (E.2.2 + c)), (1, .int x1)] := hl
  exact b_X6_fateOf_0 l S hr hlk hK N c tc σ τ x1 h hw hl
/-! X6_trailOf -/
def B_X6_trailOf_0 (N : Nat) (c : Nat) (σ : gI) (τ : gJ) (x1 : Int32) : Option (Int32 × gI × gJ) := if x1 < 0 then (some (0, σ, τ)) else (if 6 ≤ x1 then (some (0, σ, τ)) else (ck x1 6 fun j_3 => some (σ (c + 4) j_3, σ, τ)))
set_option maxHeartbeats 4000000 in
set_option maxRecDepth 100000 in
theorem b_X6_trailOf_0 (l : Launch) (S : CallFix P9 m9 C9 cX6_trailOf 2 s av.toArray gx_G RX6) (hr : meth.sig.returnType = (some .int)) (hlk : meth.locks = false) (hK : gx_K E s) (N : Nat) (c : Nat) (tc : gx_isS c) (σ : gI) (τ : gJ) (x1 : Int32) {r : Int32} {σ1 : gI} {τ1 : gJ} (h : B_X6_trailOf_0 N c σ τ x1 = some (r, σ1, τ1)) {H : Heap} {locs : List Loc} {ls : Array Slot} (hw : gx_W gx_tb gx_tb.length E s σ τ H locs) (hl : lv_has ls 2 [(0, .ref (E.2.2 + c)), (1, .int x1)]) : W P9 l e9 (gx_rm 0) s m9 av.toArray below meth C9 H locs 0 0 (gq_Qi below av s E r σ1 τ1) (F0 m9 0 ls []) := by
  have hx := S.1
  have hb := S.2.1
  unfold B_X6_trailOf_0 at h
  refine lv_iload_n hx hb dX6_trailOf_0 rfl (lv_at hl 1 rfl) ?_
  refine lv_if_lt (tgt := 19) hx hb dX6_trailOf_1 (by decide) (fun c_1 => ?_) (fun c_1 => ?_)
  · rw [if_pos c_1] at h
    refine lv_iconst (v := 0) hx hb dX6_trailOf_19 (by decide) ?_
    obtain ⟨rfl, rfl, rfl⟩ := sm_inj h
    exact gx_ri (post := gq_p 0 σ τ) (v := 0) S hr hlk hw rfl dX6_trailOf_20 ⟨rfl, rfl, rfl⟩
  · rw [if_neg c_1] at h
    refine lv_iload_n hx hb dX6_trailOf_4 rfl (lv_at hl 1 rfl) ?_
    refine lv_bipush (v := 6) hx hb dX6_trailOf_5 (by decide) ?_
    refine lv_icmp_ge (tgt := 19) hx hb dX6_trailOf_7 (by decide) (fun c_2 => ?_) (fun c_2 => ?_)
    · rw [if_pos c_2] at h
      refine lv_iconst (v := 0) hx hb dX6_trailOf_19 (by decide) ?_
      obtain ⟨rfl, rfl, rfl⟩ := sm_inj h
      exact gx_ri (post := gq_p 0 σ τ) (v := 0) S hr hlk hw rfl dX6_trailOf_20 ⟨rfl, rfl, rfl⟩
    · rw [if_neg c_2] at h
      refine lv_aload_n hx hb dX6_trailOf_10 rfl (lv_at hl 0 rfl) ?_
      refine gx_getr (j := c + 4) S hK hw tc.1 cl_7 3 (by decide) rfl mw_267 rfl dX6_trailOf_11 ?_
      refine lv_iload_n hx hb dX6_trailOf_14 rfl (lv_at hl 1 rfl) ?_
      obtain ⟨j_3, hj_3, hi_3, h⟩ := ck_some h
      refine gx_iald S hK hw (iS_4 tc) j_3 hj_3 hi_3 dX6_trailOf_15 ?_
      refine lv_goto (tgt := 20) hx hb dX6_trailOf_16 (by decide) ?_
      obtain ⟨rfl, rfl, rfl⟩ := sm_inj h
      exact gx_ri (post := gq_p (σ (c + 4) j_3) σ τ) (v := σ (c + 4) j_3) S hr hlk hw rfl dX6_trailOf_20 ⟨rfl, rfl, rfl⟩
set_option maxHeartbeats 4000000 in
set_option maxRecDepth 100000 in
theorem c_X6_trailOf (l : Launch) {E : gE} (N : Nat) (c : Nat) (tc : gx_isS c) (σ : gI) (τ : gJ) (x1 : Int32) {r : Int32} {σ1 : gI} {τ1 : gJ} (h : B_X6_trailOf_0 N c σ τ x1 = some (r, σ1, τ1)) : gx_Mi l yX6_trailOf cX6_trailOf 2 (some .int) 0 gx_tb E σ τ [.ref (E.2.2 + c), .int x1] (gq_p r σ1 τ1) := by
  refine gx_bi (by decide +kernel) (Nat.le_of_ble_eq_true rfl) ?_
  intro P9 e9 s m9 below meth C9 S hr hlk hK hw ls hl
  have hl : lv_has ls 2 [(0, .ref (E.2.2 + c)), (1, .int x1)] := hl
  exact b_X6_trailOf_0 l S hr hlk hK N c tc σ τ x1 h hw hl
/-! X11_comes -/
def B_X11_comes_0 (N : Nat) (σ : gI) (τ : gJ) (x1 : Int32) : Option (Int32 × gI × gJ) := bd (B_X6_has_0 N 30 σ τ x1) fun r_1 σ_1 τ_1 => if r_1 = 0 then (some ((-1), σ_1, τ_1)) else (bd (B_X9_settle_0 N σ_1 τ_1 x1) fun r_3 σ_3 τ_3 => bd (B_X6_fateOf_0 N 171 σ_3 τ_3 x1) fun r_4 σ_4 τ_4 => if r_4 = 1 then (bd (B_X6_spotOf_0 N 171 σ_4 τ_4 x1) fun r_9 σ_9 τ_9 => bd (B_X6_trailOf_0 N 171 σ_9 τ_9 x1) fun r_10 σ_10 τ_10 => bd (B_X4_tell__0 N σ_10 τ_10 r_9.toInt64 r_10.toInt64) fun _ σ_11 τ_11 => some (r_3, σ_11, τ_11)) else (bd (B_X6_spotOf_0 N 171 σ_4 τ_4 x1) fun r_6 σ_6 τ_6 => bd (B_X4_tell_0 N σ_6 τ_6 r_6.toInt64) fun _ σ_7 τ_7 => if r_4 = 2 then (some ((-2), σ_7, τ_7)) else (some ((-3), σ_7, τ_7))))
set_option maxHeartbeats 4000000 in
set_option maxRecDepth 100000 in
theorem b_X11_comes_0 (l : Launch) (S : CallFix P9 m9 C9 cX11_comes 5 s av.toArray gx_G RX11) (hr : meth.sig.returnType = (some .int)) (hlk : meth.locks = false) (hK : gx_K E s) (N : Nat) (σ : gI) (τ : gJ) (x1 : Int32) {r : Int32} {σ1 : gI} {τ1 : gJ} (h : B_X11_comes_0 N σ τ x1 = some (r, σ1, τ1)) {H : Heap} {locs : List Loc} {ls : Array Slot} (hw : gx_W gx_tb gx_tb.length E s σ τ H locs) (hl : lv_has ls 5 [(0, .ref (E.2.2 + 0)), (1, .int x1)]) : W P9 l e9 (gx_rm 5) s m9 av.toArray below meth C9 H locs 0 0 (gq_Qi below av s E r σ1 τ1) (F0 m9 0 ls []) := by
  have hx := S.1
  have hb := S.2.1
  unfold B_X11_comes_0 at h
  refine lv_aload_n hx hb dX11_comes_0 rfl (lv_at hl 0 rfl) ?_
  refine gx_getr (j := 30) S hK hw t_0 cl_12 7 (by decide) rfl mw_454 rfl dX11_comes_1 ?_
  refine lv_iload_n hx hb dX11_comes_4 rfl (lv_at hl 1 rfl) ?_
  obtain ⟨r_1, σ_1, τ_1, q_1, h⟩ := bd_some h
  refine gx_cVi (As := [.int x1]) (rest := []) S hK gx_ok hw (c_X6_has l (E := E) N 30 is_30 σ τ x1 q_1) cw_X11_172 t_30 cl_7 ⟨Nat.le_of_ble_eq_true rfl, Nat.le_of_ble_eq_true rfl⟩ rfl hl.1 rfl (Nat.le_of_ble_eq_true rfl) ⟨Nat.le_of_ble_eq_true rfl, Nat.le_of_ble_eq_true rfl⟩ dX11_comes_5 (fun r9 σ9 τ9 H locs hp hw => ?_)
  obtain ⟨rfl, rfl, rfl⟩ := hp
  refine lv_if_ne (tgt := 13) hx hb dX11_comes_8 (by decide) (fun c_2 => ?_) (fun c_2 => ?_)
  · rw [if_neg c_2] at h
    refine lv_aload_n hx hb dX11_comes_13 rfl (lv_at hl 0 rfl) ?_
    refine gx_getr (j := 160) S hK hw t_0 cl_12 15 (by decide) rfl mw_462 rfl dX11_comes_14 ?_
    refine lv_aload_n hx hb dX11_comes_17 rfl (lv_at hl 0 rfl) ?_
    refine gx_getr (j := 30) S hK hw t_0 cl_12 7 (by decide) rfl mw_454 rfl dX11_comes_18 ?_
    refine lv_iload_n hx hb dX11_comes_21 rfl (lv_at hl 1 rfl) ?_
    obtain ⟨r_3, σ_3, τ_3, q_3, h⟩ := bd_some h
    refine gx_cVi (As := [.ref (E.2.2 + 30), .int x1]) (rest := []) S hK gx_ok hw (c_X9_settle l (E := E) N σ_1 τ_1 x1 q_3) cw_X11_303 t_160 cl_10 ⟨Nat.le_of_ble_eq_true rfl, Nat.le_of_ble_eq_true rfl⟩ rfl hl.1 rfl (Nat.le_of_ble_eq_true rfl) ⟨Nat.le_of_ble_eq_true rfl, Nat.le_of_ble_eq_true rfl⟩ dX11_comes_22 (fun r9 σ9 τ9 H locs hp hw => ?_)
    obtain ⟨rfl, rfl, rfl⟩ := hp
    refine lv_istore_n (lv' := [(2, .int r_3), (0, .ref (E.2.2 + 0)), (1, .int x1)]) hx hb dX11_comes_25 rfl hl (by decide) rfl (fun ls hl => ?_)
    refine lv_aload_n hx hb dX11_comes_26 rfl (lv_at hl 1 rfl) ?_
    refine gx_getr (j := 160) S hK hw t_0 cl_12 15 (by decide) rfl mw_462 rfl dX11_comes_27 ?_
    refine gx_getr (j := 171) S hK hw t_160 cl_10 8 (by decide) rfl mw_426 rfl dX11_comes_30 ?_
    refine lv_astore_n (lv' := [(3, .ref (E.2.2 + 171)), (2, .int r_3), (0, .ref (E.2.2 + 0)), (1, .int x1)]) hx hb dX11_comes_33 rfl hl (by decide) rfl (fun ls hl => ?_)
    refine lv_aload_n hx hb dX11_comes_34 rfl (lv_at hl 0 rfl) ?_
    refine lv_iload_n hx hb dX11_comes_35 rfl (lv_at hl 3 rfl) ?_
    obtain ⟨r_4, σ_4, τ_4, q_4, h⟩ := bd_some h
    refine gx_cVi (As := [.int x1]) (rest := []) S hK gx_ok hw (c_X6_fateOf l (E := E) N 171 is_171 σ_3 τ_3 x1 q_4) cw_X11_187 t_171 cl_7 ⟨Nat.le_of_ble_eq_true rfl, Nat.le_of_ble_eq_true rfl⟩ rfl hl.1 rfl (Nat.le_of_ble_eq_true rfl) ⟨Nat.le_of_ble_eq_true rfl, Nat.le_of_ble_eq_true rfl⟩ dX11_comes_36 (fun r9 σ9 τ9 H locs hp hw => ?_)
    obtain ⟨rfl, rfl, rfl⟩ := hp
    refine lv_istore (lv' := [(4, .int r_4), (3, .ref (E.2.2 + 171)), (2, .int r_3), (0, .ref (E.2.2 + 0)), (1, .int x1)]) hx hb dX11_comes_39 hl (by decide) rfl (fun ls hl => ?_)
    refine lv_iload hx hb dX11_comes_41 (lv_at hl 0 rfl) ?_
    refine lv_iconst (v := 1) hx hb dX11_comes_43 (by decide) ?_
    refine lv_icmp_ne (tgt := 68) hx hb dX11_comes_44 (by decide) (fun c_5 => ?_) (fun c_5 => ?_)
    · rw [if_neg c_5] at h
      refine lv_aload_n hx hb dX11_comes_68 rfl (lv_at hl 3 rfl) ?_
      refine gx_getr (j := 156) S hK hw t_0 cl_12 13 (by decide) rfl mw_460 rfl dX11_comes_69 ?_
      refine lv_aload_n hx hb dX11_comes_72 rfl (lv_at hl 1 rfl) ?_
      refine lv_iload_n hx hb dX11_comes_73 rfl (lv_at hl 4 rfl) ?_
      obtain ⟨r_6, σ_6, τ_6, q_6, h⟩ := bd_some h
      refine gx_cVi (As := [.int x1]) (rest := [.ref (E.2.2 + 156)]) S hK gx_ok hw (c_X6_spotOf l (E := E) N 171 is_171 σ_4 τ_4 x1 q_6) cw_X11_175 t_171 cl_7 ⟨Nat.le_of_ble_eq_true rfl, Nat.le_of_ble_eq_true rfl⟩ rfl hl.1 rfl (Nat.le_of_ble_eq_true rfl) ⟨Nat.le_of_ble_eq_true rfl, Nat.le_of_ble_eq_true rfl⟩ dX11_comes_74 (fun r9 σ9 τ9 H locs hp hw => ?_)
      obtain ⟨rfl, rfl, rfl⟩ := hp
      refine lv_i2l (v := r_6.toInt64) hx hb dX11_comes_77 rfl ?_
      obtain ⟨u_7, σ_7, τ_7, q_7, h⟩ := bd_some h
      refine gx_cVv (As := [.long r_6.toInt64]) (rest := []) S hK gx_ok hw (c_X4_tell l (E := E) N σ_6 τ_6 r_6.toInt64 q_7) cw_X11_307 t_156 cl_5 ⟨Nat.le_of_ble_eq_true rfl, Nat.le_of_ble_eq_true rfl⟩ rfl hl.1 rfl (Nat.le_of_ble_eq_true rfl) ⟨Nat.le_of_ble_eq_true rfl, Nat.le_of_ble_eq_true rfl⟩ dX11_comes_78 (fun σ9 τ9 H locs hp hw => ?_)
      obtain ⟨rfl, rfl⟩ := hp
      refine lv_iload hx hb dX11_comes_81 (lv_at hl 0 rfl) ?_
      refine lv_iconst (v := 2) hx hb dX11_comes_83 (by decide) ?_
      refine lv_icmp_ne (tgt := 92) hx hb dX11_comes_84 (by decide) (fun c_8 => ?_) (fun c_8 => ?_)
      · rw [if_neg c_8] at h
        refine lv_bipush (v := (-3)) hx hb dX11_comes_92 (by decide) ?_
        obtain ⟨rfl, rfl, rfl⟩ := sm_inj h
        exact gx_ri (post := gq_p (-3) σ_7 τ_7) (v := (-3)) S hr hlk hw rfl dX11_comes_94 ⟨rfl, rfl, rfl⟩
      · rw [if_pos c_8] at h
        refine lv_bipush (v := (-2)) hx hb dX11_comes_87 (by decide) ?_
        refine lv_goto (tgt := 94) hx hb dX11_comes_89 (by decide) ?_
        obtain ⟨rfl, rfl, rfl⟩ := sm_inj h
        exact gx_ri (post := gq_p (-2) σ_7 τ_7) (v := (-2)) S hr hlk hw rfl dX11_comes_94 ⟨rfl, rfl, rfl⟩
    · rw [if_pos c_5] at h
      refine lv_aload_n hx hb dX11_comes_47 rfl (lv_at hl 3 rfl) ?_
      refine gx_getr (j := 156) S hK hw t_0 cl_12 13 (by decide) rfl mw_460 rfl dX11_comes_48 ?_
      refine lv_aload_n hx hb dX11_comes_51 rfl (lv_at hl 1 rfl) ?_
      refine lv_iload_n hx hb dX11_comes_52 rfl (lv_at hl 4 rfl) ?_
      obtain ⟨r_9, σ_9, τ_9, q_9, h⟩ := bd_some h
      refine gx_cVi (As := [.int x1]) (rest := [.ref (E.2.2 + 156)]) S hK gx_ok hw (c_X6_spotOf l (E := E) N 171 is_171 σ_4 τ_4 x1 q_9) cw_X11_175 t_171 cl_7 ⟨Nat.le_of_ble_eq_true rfl, Nat.le_of_ble_eq_true rfl⟩ rfl hl.1 rfl (Nat.le_of_ble_eq_true rfl) ⟨Nat.le_of_ble_eq_true rfl, Nat.le_of_ble_eq_true rfl⟩ dX11_comes_53 (fun r9 σ9 τ9 H locs hp hw => ?_)
      obtain ⟨rfl, rfl, rfl⟩ := hp
      refine lv_i2l (v := r_9.toInt64) hx hb dX11_comes_56 rfl ?_
      refine lv_aload_n hx hb dX11_comes_57 rfl (lv_at hl 1 rfl) ?_
      refine lv_iload_n hx hb dX11_comes_58 rfl (lv_at hl 4 rfl) ?_
      obtain ⟨r_10, σ_10, τ_10, q_10, h⟩ := bd_some h
      refine gx_cVi (As := [.int x1]) (rest := [.long r_9.toInt64, .ref (E.2.2 + 156)]) S hK gx_ok hw (c_X6_trailOf l (E := E) N 171 is_171 σ_9 τ_9 x1 q_10) cw_X11_184 t_171 cl_7 ⟨Nat.le_of_ble_eq_true rfl, Nat.le_of_ble_eq_true rfl⟩ rfl hl.1 rfl (Nat.le_of_ble_eq_true rfl) ⟨Nat.le_of_ble_eq_true rfl, Nat.le_of_ble_eq_true rfl⟩ dX11_comes_59 (fun r9 σ9 τ9 H locs hp hw => ?_)
      obtain ⟨rfl, rfl, rfl⟩ := hp
      refine lv_i2l (v := r_10.toInt64) hx hb dX11_comes_62 rfl ?_
      obtain ⟨u_11, σ_11, τ_11, q_11, h⟩ := bd_some h
      refine gx_cVv (As := [.long r_9.toInt64, .long r_10.toInt64]) (rest := []) S hK gx_ok hw (c_X4_tell_ l (E := E) N σ_10 τ_10 r_9.toInt64 r_10.toInt64 q_11) cw_X11_257 t_156 cl_5 ⟨Nat.le_of_ble_eq_true rfl, Nat.le_of_ble_eq_true rfl⟩ rfl hl.1 rfl (Nat.le_of_ble_eq_true rfl) ⟨Nat.le_of_ble_eq_true rfl, Nat.le_of_ble_eq_true rfl⟩ dX11_comes_63 (fun σ9 τ9 H locs hp hw => ?_)
      obtain ⟨rfl, rfl⟩ := hp
      refine lv_iload_n hx hb dX11_comes_66 rfl (lv_at hl 2 rfl) ?_
      obtain ⟨rfl, rfl, rfl⟩ := sm_inj h
      exact gx_ri (post := gq_p r_3 σ_11 τ_11) (v := r_3) S hr hlk hw rfl dX11_comes_67 ⟨rfl, rfl, rfl⟩
  · rw [if_pos c_2] at h
    refine lv_iconst (v := (-1)) hx hb dX11_comes_11 (by decide) ?_
    obtain ⟨rfl, rfl, rfl⟩ := sm_inj h
    exact gx_ri (post := gq_p (-1) σ_1 τ_1) (v := (-1)) S hr hlk hw rfl dX11_comes_12 ⟨rfl, rfl, rfl⟩
set_option maxHeartbeats 4000000 in
set_option maxRecDepth 100000 in
theorem c_X11_comes (l : Launch) {E : gE} (N : Nat) (σ : gI) (τ : gJ) (x1 : Int32) {r : Int32} {σ1 : gI} {τ1 : gJ} (h : B_X11_comes_0 N σ τ x1 = some (r, σ1, τ1)) : gx_Mi l yX11_comes cX11_comes 5 (some .int) 5 gx_tb E σ τ [.ref (E.2.2 + 0), .int x1] (gq_p r σ1 τ1) := by
  refine gx_bi (by decide +kernel) (Nat.le_of_ble_eq_true rfl) ?_
  intro P9 e9 s m9 below meth C9 S hr hlk hK hw ls hl
  have hl : lv_has ls 5 [(0, .ref (E.2.2 + 0)), (1, .int x1)] := hl
  exact b_X11_comes_0 l S hr hlk hK N σ τ x1 h hw hl
/-! X11_commonDivisor -/
def C_X11_commonDivisor_7 (N : Nat) (rec_7 : gI → gJ → Int32 → Int32 → Int32 → Option (Int32 × gI × gJ)) (σ : gI) (τ : gJ) (x2 : Int32) (x3 : Int32) (x4 : Int32) : Option (Int32 × gI × gJ) := if 100 ≤ x4 then (some (imax 1 x2, σ, τ)) else (if x3 = 0 then (some (imax 1 x2, σ, τ)) else (dz x3 <| nm (x2 - x2 / x3 * x3) fun v_4 => nm (x4 + 1) fun v_5 => rec_7 σ τ x3 v_4 v_5))
def H_X11_commonDivisor_7 (N : Nat) : Nat → gI → gJ → Int32 → Int32 → Int32 → Option (Int32 × gI × gJ) := itn (fun rec_7 => C_X11_commonDivisor_7 N rec_7) (fun _ _ _ _ _ => none)
def B_X11_commonDivisor_0 (N : Nat) (σ : gI) (τ : gJ) (x0 : Int32) (x1 : Int32) : Option (Int32 × gI × gJ) := H_X11_commonDivisor_7 N N σ τ x0 x1 0
set_option maxHeartbeats 4000000 in
set_option maxRecDepth 100000 in
theorem k_X11_commonDivisor_7 (l : Launch) (S : CallFix P9 m9 C9 cX11_commonDivisor 6 s av.toArray gx_G RX11) (hr : meth.sig.returnType = (some .int)) (hlk : meth.locks = false) (hK : gx_K E s) (N : Nat) (rec_7 : gI → gJ → Int32 → Int32 → Int32 → Option (Int32 × gI × gJ)) (hrec_7 : ∀ (σ : gI) (τ : gJ) (x2 : Int32) (x3 : Int32) (x4 : Int32) (r : Int32) (σ1 : gI) (τ1 : gJ) (H : Heap) (locs : List Loc) (ls : Array Slot), rec_7 σ τ x2 x3 x4 = some (r, σ1, τ1) → gx_W gx_tb gx_tb.length E s σ τ H locs → lv_has ls 6 [(2, .int x2), (3, .int x3), (4, .int x4)] → W P9 l e9 (gx_rm 1) s m9 av.toArray below meth C9 H locs 0 0 (gq_Qi below av s E r σ1 τ1) (F0 m9 7 ls [])) (σ : gI) (τ : gJ) (x2 : Int32) (x3 : Int32) (x4 : Int32) {r : Int32} {σ1 : gI} {τ1 : gJ} (h : C_X11_commonDivisor_7 N rec_7 σ τ x2 x3 x4 = some (r, σ1, τ1)) {H : Heap} {locs : List Loc} {ls : Array Slot} (hw : gx_W gx_tb gx_tb.length E s σ τ H locs) (hl : lv_has ls 6 [(2, .int x2), (3, .int x3), (4, .int x4)]) : W P9 l e9 (gx_rm 1) s m9 av.toArray below meth C9 H locs 0 0 (gq_Qi below av s E r σ1 τ1) (F0 m9 7 ls []) := by
  have hx := S.1
  have hb := S.2.1
  unfold C_X11_commonDivisor_7 at h
  refine lv_iload hx hb dX11_commonDivisor_7 (lv_at hl 2 rfl) ?_
  refine lv_bipush (v := 100) hx hb dX11_commonDivisor_9 (by decide) ?_
  refine lv_icmp_ge (tgt := 34) hx hb dX11_commonDivisor_11 (by decide) (fun c_1 => ?_) (fun c_1 => ?_)
  · rw [if_pos c_1] at h
    refine lv_iconst (v := 1) hx hb dX11_commonDivisor_34 (by decide) ?_
    refine lv_iload_n hx hb dX11_commonDivisor_35 rfl (lv_at hl 0 rfl) ?_
    refine gx_max (w := imax 1 x2) S hl.1 mw_789 mw_577 mw_102 mw_578 ⟨Nat.le_of_ble_eq_true rfl, Nat.le_of_ble_eq_true rfl⟩ ⟨Nat.le_of_ble_eq_true rfl, Nat.le_of_ble_eq_true rfl⟩ dX11_commonDivisor_36 rfl ?_
    obtain ⟨rfl, rfl, rfl⟩ := sm_inj h
    exact gx_ri (post := gq_p (imax 1 x2) σ τ) (v := imax 1 x2) S hr hlk hw rfl dX11_commonDivisor_39 ⟨rfl, rfl, rfl⟩
  · rw [if_neg c_1] at h
    refine lv_iload_n hx hb dX11_commonDivisor_14 rfl (lv_at hl 1 rfl) ?_
    refine lv_if_eq (tgt := 34) hx hb dX11_commonDivisor_15 (by decide) (fun c_2 => ?_) (fun c_2 => ?_)
    · rw [if_pos c_2] at h
      refine lv_iconst (v := 1) hx hb dX11_commonDivisor_34 (by decide) ?_
      refine lv_iload_n hx hb dX11_commonDivisor_35 rfl (lv_at hl 0 rfl) ?_
      refine gx_max (w := imax 1 x2) S hl.1 mw_789 mw_577 mw_102 mw_578 ⟨Nat.le_of_ble_eq_true rfl, Nat.le_of_ble_eq_true rfl⟩ ⟨Nat.le_of_ble_eq_true rfl, Nat.le_of_ble_eq_true rfl⟩ dX11_commonDivisor_36 rfl ?_
      obtain ⟨rfl, rfl, rfl⟩ := sm_inj h
      exact gx_ri (post := gq_p (imax 1 x2) σ τ) (v := imax 1 x2) S hr hlk hw rfl dX11_commonDivisor_39 ⟨rfl, rfl, rfl⟩
    · rw [if_neg c_2] at h
      refine lv_iload_n hx hb dX11_commonDivisor_18 rfl (lv_at hl 0 rfl) ?_
      refine lv_iload_n hx hb dX11_commonDivisor_19 rfl (lv_at hl 1 rfl) ?_
      obtain ⟨hz_3, h⟩ := dz_some h
      refine lv_irem hx hb dX11_commonDivisor_20 hz_3 ?_
      refine lv_istore (lv' := [(5, .int (x2 - x2 / x3 * x3)), (2, .int x2), (3, .int x3), (4, .int x4)]) hx hb dX11_commonDivisor_21 hl (by decide) rfl (fun ls hl => ?_)
      obtain ⟨v_4, e_4, h⟩ := nm_some h
      have hl : lv_has ls 6 [(5, .int v_4), (2, .int x2), (3, .int x3), (4, .int x4)] := by rw [e_4]; exact hl
      refine lv_iload_n hx hb dX11_commonDivisor_23 rfl (lv_at hl 2 rfl) ?_
      refine lv_istore_n (lv' := [(2, .int x3), (5, .int v_4), (3, .int x3), (4, .int x4)]) hx hb dX11_commonDivisor_24 rfl hl (by decide) rfl (fun ls hl => ?_)
      refine lv_iload hx hb dX11_commonDivisor_25 (lv_at hl 1 rfl) ?_
      refine lv_istore_n (lv' := [(3, .int v_4), (2, .int x3), (5, .int v_4), (4, .int x4)]) hx hb dX11_commonDivisor_27 rfl hl (by decide) rfl (fun ls hl => ?_)
      refine lv_iinc (v := x4 + 1) (lv' := [(4, .int (x4 + 1)), (3, .int v_4), (2, .int x3), (5, .int v_4)]) hx hb dX11_commonDivisor_28 hl (k := 3) rfl rfl (by decide) rfl (fun ls hl => ?_)
      obtain ⟨v_5, e_5, h⟩ := nm_some h
      have hl : lv_has ls 6 [(4, .int v_5), (3, .int v_4), (2, .int x3), (5, .int v_4)] := by rw [e_5]; exact hl
      refine lv_goto (tgt := 7) hx hb dX11_commonDivisor_31 (by decide) ?_
      exact hrec_7 σ τ x3 v_4 v_5 _ _ _ _ _ _ h hw (lv_sub hl [2, 1, 0] rfl)
set_option maxHeartbeats 4000000 in
set_option maxRecDepth 100000 in
theorem h_X11_commonDivisor_7 (l : Launch) (S : CallFix P9 m9 C9 cX11_commonDivisor 6 s av.toArray gx_G RX11) (hr : meth.sig.returnType = (some .int)) (hlk : meth.locks = false) (hK : gx_K E s) (N : Nat) : ∀ (n : Nat) (σ : gI) (τ : gJ) (x2 : Int32) (x3 : Int32) (x4 : Int32) (r : Int32) (σ1 : gI) (τ1 : gJ), H_X11_commonDivisor_7 N n σ τ x2 x3 x4 = some (r, σ1, τ1) → ∀ (H : Heap) (locs : List Loc) (ls : Array Slot), gx_W gx_tb gx_tb.length E s σ τ H locs → lv_has ls 6 [(2, .int x2), (3, .int x3), (4, .int x4)] → W P9 l e9 (gx_rm 1) s m9 av.toArray below meth C9 H locs 0 0 (gq_Qi below av s E r σ1 τ1) (F0 m9 7 ls []) := by
  intro n
  induction n with
  | zero => intro σ τ x2 x3 x4 r σ1 τ1 h; cases h
  | succ n ih =>
    intro σ τ x2 x3 x4 r σ1 τ1 h H locs ls hw hl
    exact k_X11_commonDivisor_7 l S hr hlk hK N (H_X11_commonDivisor_7 N n) (fun σ τ x2 x3 x4 r σ1 τ1 H locs ls h hw hl => ih σ τ x2 x3 x4 r σ1 τ1 h H locs ls hw hl) σ τ x2 x3 x4 h hw hl
set_option maxHeartbeats 4000000 in
set_option maxRecDepth 100000 in
theorem b_X11_commonDivisor_0 (l : Launch) (S : CallFix P9 m9 C9 cX11_commonDivisor 6 s av.toArray gx_G RX11) (hr : meth.sig.returnType = (some .int)) (hlk : meth.locks = false) (hK : gx_K E s) (N : Nat) (σ : gI) (τ : gJ) (x0 : Int32) (x1 : Int32) {r : Int32} {σ1 : gI} {τ1 : gJ} (h : B_X11_commonDivisor_0 N σ τ x0 x1 = some (r, σ1, τ1)) {H : Heap} {locs : List Loc} {ls : Array Slot} (hw : gx_W gx_tb gx_tb.length E s σ τ H locs) (hl : lv_has ls 6 [(0, .int x0), (1, .int x1)]) : W P9 l e9 (gx_rm 1) s m9 av.toArray below meth C9 H locs 0 0 (gq_Qi below av s E r σ1 τ1) (F0 m9 0 ls []) := by
  have hx := S.1
  have hb := S.2.1
  unfold B_X11_commonDivisor_0 at h
  refine lv_iload_n hx hb dX11_commonDivisor_0 rfl (lv_at hl 0 rfl) ?_
  refine lv_istore_n (lv' := [(2, .int x0), (0, .int x0), (1, .int x1)]) hx hb dX11_commonDivisor_1 rfl hl (by decide) rfl (fun ls hl => ?_)
  refine lv_iload_n hx hb dX11_commonDivisor_2 rfl (lv_at hl 2 rfl) ?_
  refine lv_istore_n (lv' := [(3, .int x1), (2, .int x0), (0, .int x0), (1, .int x1)]) hx hb dX11_commonDivisor_3 rfl hl (by decide) rfl (fun ls hl => ?_)
  refine lv_iconst (v := 0) hx hb dX11_commonDivisor_4 (by decide) ?_
  refine lv_istore (lv' := [(4, .int 0), (3, .int x1), (2, .int x0), (0, .int x0), (1, .int x1)]) hx hb dX11_commonDivisor_5 hl (by decide) rfl (fun ls hl => ?_)
  exact h_X11_commonDivisor_7 l S hr hlk hK N N σ τ x0 x1 0 _ _ _ h _ _ _ hw (lv_sub hl [2, 1, 0] rfl)
set_option maxHeartbeats 4000000 in
set_option maxRecDepth 100000 in
theorem c_X11_commonDivisor (l : Launch) {E : gE} (N : Nat) (σ : gI) (τ : gJ) (x0 : Int32) (x1 : Int32) {r : Int32} {σ1 : gI} {τ1 : gJ} (h : B_X11_commonDivisor_0 N σ τ x0 x1 = some (r, σ1, τ1)) : gx_Mi l yX11_commonDivisor cX11_commonDivisor 6 (some .int) 1 gx_tb E σ τ [.int x0, .int x1] (gq_p r σ1 τ1) := by
  refine gx_bi (by decide +kernel) (Nat.le_of_ble_eq_true rfl) ?_
  intro P9 e9 s m9 below meth C9 S hr hlk hK hw ls hl
  have hl : lv_has ls 6 [(0, .int x0), (1, .int x1)] := hl
  exact b_X11_commonDivisor_0 l S hr hlk hK N σ τ x0 x1 h hw hl
/-! X11_isCorkMinute -/
def B_X11_isCorkMinute_0 (N : Nat) (σ : gI) (τ : gJ) (x0 : Int32) : Option (Int32 × gI × gJ) := if x0 < 0 then (some (0, σ, τ)) else (if 999 < x0 then (some (0, σ, τ)) else (some (1, σ, τ)))
set_option maxHeartbeats 4000000 in
set_option maxRecDepth 100000 in
theorem b_X11_isCorkMinute_0 (l : Launch) (S : CallFix P9 m9 C9 cX11_isCorkMinute 1 s av.toArray gx_G RX11) (hr : meth.sig.returnType = (some .boolean)) (hlk : meth.locks = false) (hK : gx_K E s) (N : Nat) (σ : gI) (τ : gJ) (x0 : Int32) {r : Int32} {σ1 : gI} {τ1 : gJ} (h : B_X11_isCorkMinute_0 N σ τ x0 = some (r, σ1, τ1)) {H : Heap} {locs : List Loc} {ls : Array Slot} (hw : gx_W gx_tb gx_tb.length E s σ τ H locs) (hl : lv_has ls 1 [(0, .int x0)]) : W P9 l e9 (gx_rm 0) s m9 av.toArray below meth C9 H locs 0 0 (gq_Qi below av s E r σ1 τ1) (F0 m9 0 ls []) := by
  have hx := S.1
  have hb := S.2.1
  unfold B_X11_isCorkMinute_0 at h
  refine lv_iload_n hx hb dX11_isCorkMinute_0 rfl (lv_at hl 0 rfl) ?_
  refine lv_if_lt (tgt := 15) hx hb dX11_isCorkMinute_1 (by decide) (fun c_1 => ?_) (fun c_1 => ?_)
  · rw [if_pos c_1] at h
    refine lv_iconst (v := 0) hx hb dX11_isCorkMinute_15 (by decide) ?_
    obtain ⟨rfl, rfl, rfl⟩ := sm_inj h
    exact gx_ri (post := gq_p 0 σ τ) (v := 0) S hr hlk hw rfl dX11_isCorkMinute_16 ⟨rfl, rfl, rfl⟩
  · rw [if_neg c_1] at h
    refine lv_iload_n hx hb dX11_isCorkMinute_4 rfl (lv_at hl 0 rfl) ?_
    refine lv_sipush (v := 999) hx hb dX11_isCorkMinute_5 (by decide) ?_
    refine lv_icmp_gt (tgt := 15) hx hb dX11_isCorkMinute_8 (by decide) (fun c_2 => ?_) (fun c_2 => ?_)
    · rw [if_pos c_2] at h
      refine lv_iconst (v := 0) hx hb dX11_isCorkMinute_15 (by decide) ?_
      obtain ⟨rfl, rfl, rfl⟩ := sm_inj h
      exact gx_ri (post := gq_p 0 σ τ) (v := 0) S hr hlk hw rfl dX11_isCorkMinute_16 ⟨rfl, rfl, rfl⟩
    · rw [if_neg c_2] at h
      refine lv_iconst (v := 1) hx hb dX11_isCorkMinute_11 (by decide) ?_
      refine lv_goto (tgt := 16) hx hb dX11_isCorkMinute_12 (by decide) ?_
      obtain ⟨rfl, rfl, rfl⟩ := sm_inj h
      exact gx_ri (post := gq_p 1 σ τ) (v := 1) S hr hlk hw rfl dX11_isCorkMinute_16 ⟨rfl, rfl, rfl⟩
set_option maxHeartbeats 4000000 in
set_option maxRecDepth 100000 in
theorem c_X11_isCorkMinute (l : Launch) {E : gE} (N : Nat) (σ : gI) (τ : gJ) (x0 : Int32) {r : Int32} {σ1 : gI} {τ1 : gJ} (h : B_X11_isCorkMinute_0 N σ τ x0 = some (r, σ1, τ1)) : gx_Mi l yX11_isCorkMinute cX11_isCorkMinute 1 (some .boolean) 0 gx_tb E σ τ [.int x0] (gq_p r σ1 τ1) := by
  refine gx_bi (by decide +kernel) (Nat.le_of_ble_eq_true rfl) ?_
  intro P9 e9 s m9 below meth C9 S hr hlk hK hw ls hl
  have hl : lv_has ls 1 [(0, .int x0)] := hl
  exact b_X11_isCorkMinute_0 l S hr hlk hK N σ τ x0 h hw hl
/-! X11_cork -/
def B_X11_cork_21 (N : Nat) (σ : gI) (τ : gJ) (x1 : Int32) (x2 : Int32) (x3 : Int32) (y0 : Int32) : Option (Int32 × gI × gJ) := bd (B_X8_has_0 N σ τ x1) fun r_1 σ_1 τ_1 => if r_1 = 0 then (some ((-1), σ_1, τ_1)) else (bd (B_X11_isCorkMinute_0 N σ_1 τ_1 x2) fun r_3 σ_3 τ_3 => if r_3 = 0 then (some ((-1), σ_3, τ_3)) else (if y0 = 0 then (some ((-1), σ_3, τ_3)) else (bd (B_X0_add_0 N σ_3 τ_3 x1 x2 x3) fun r_6 σ_6 τ_6 => if r_6 = 0 then (some ((-1), σ_6, τ_6)) else (some (σ_6 152 3, σ_6, τ_6)))))
def B_X11_cork_0 (N : Nat) (σ : gI) (τ : gJ) (x1 : Int32) (x2 : Int32) (x3 : Int32) : Option (Int32 × gI × gJ) := if x3 = (-1) then (B_X11_cork_21 N σ τ x1 x2 x3 1) else (bd (B_X8_isKitchen_0 N σ τ x3) fun r_2 σ_2 τ_2 => if r_2 = 0 then (B_X11_cork_21 N σ_2 τ_2 x1 x2 x3 0) else (B_X11_cork_21 N σ_2 τ_2 x1 x2 x3 1))
set_option maxHeartbeats 4000000 in
set_option maxRecDepth 100000 in
theorem b_X11_cork_21 (l : Launch) (S : CallFix P9 m9 C9 cX11_cork 5 s av.toArray gx_G RX11) (hr : meth.sig.returnType = (some .int)) (hlk : meth.locks = false) (hK : gx_K E s) (N : Nat) (σ : gI) (τ : gJ) (x1 : Int32) (x2 : Int32) (x3 : Int32) (y0 : Int32) {r : Int32} {σ1 : gI} {τ1 : gJ} (h : B_X11_cork_21 N σ τ x1 x2 x3 y0 = some (r, σ1, τ1)) {H : Heap} {locs : List Loc} {ls : Array Slot} (hw : gx_W gx_tb gx_tb.length E s σ τ H locs) (hl : lv_has ls 5 [(0, .ref (E.2.2 + 0)), (1, .int x1), (2, .int x2), (3, .int x3)]) : W P9 l e9 (gx_rm 1) s m9 av.toArray below meth C9 H locs 0 0 (gq_Qi below av s E r σ1 τ1) (F0 m9 21 ls [.int y0]) := by
  have hx := S.1
  have hb := S.2.1
  unfold B_X11_cork_21 at h
  refine lv_istore (lv' := [(4, .int y0), (0, .ref (E.2.2 + 0)), (1, .int x1), (2, .int x2), (3, .int x3)]) hx hb dX11_cork_21 hl (by decide) rfl (fun ls hl => ?_)
  refine lv_aload_n hx hb dX11_cork_23 rfl (lv_at hl 1 rfl) ?_
  refine gx_getr (j := 3) S hK hw t_0 cl_12 1 (by decide) rfl mw_448 rfl dX11_cork_24 ?_
  refine lv_iload_n hx hb dX11_cork_27 rfl (lv_at hl 2 rfl) ?_
  obtain ⟨r_1, σ_1, τ_1, q_1, h⟩ := bd_some h
  refine gx_cVi (As := [.int x1]) (rest := []) S hK gx_ok hw (c_X8_has l (E := E) N σ τ x1 q_1) cw_X11_137 t_3 cl_9 ⟨Nat.le_of_ble_eq_true rfl, Nat.le_of_ble_eq_true rfl⟩ rfl hl.1 rfl (Nat.le_of_ble_eq_true rfl) ⟨Nat.le_of_ble_eq_true rfl, Nat.le_of_ble_eq_true rfl⟩ dX11_cork_28 (fun r9 σ9 τ9 H locs hp hw => ?_)
  obtain ⟨rfl, rfl, rfl⟩ := hp
  refine lv_if_eq (tgt := 46) hx hb dX11_cork_31 (by decide) (fun c_2 => ?_) (fun c_2 => ?_)
  · rw [if_pos c_2] at h
    refine lv_iconst (v := (-1)) hx hb dX11_cork_46 (by decide) ?_
    obtain ⟨rfl, rfl, rfl⟩ := sm_inj h
    exact gx_ri (post := gq_p (-1) σ_1 τ_1) (v := (-1)) S hr hlk hw rfl dX11_cork_47 ⟨rfl, rfl, rfl⟩
  · rw [if_neg c_2] at h
    refine lv_iload_n hx hb dX11_cork_34 rfl (lv_at hl 3 rfl) ?_
    obtain ⟨r_3, σ_3, τ_3, q_3, h⟩ := bd_some h
    refine gx_cSi (As := [.int x2]) (rest := []) S hK gx_ok hw (c_X11_isCorkMinute l (E := E) N σ_1 τ_1 x2 q_3) cw_X11_366 ⟨Nat.le_of_ble_eq_true rfl, Nat.le_of_ble_eq_true rfl⟩ rfl hl.1 rfl (Nat.le_of_ble_eq_true rfl) ⟨Nat.le_of_ble_eq_true rfl, Nat.le_of_ble_eq_true rfl⟩ dX11_cork_35 (fun r9 σ9 τ9 H locs hp hw => ?_)
    obtain ⟨rfl, rfl, rfl⟩ := hp
    refine lv_if_eq (tgt := 46) hx hb dX11_cork_38 (by decide) (fun c_4 => ?_) (fun c_4 => ?_)
    · rw [if_pos c_4] at h
      refine lv_iconst (v := (-1)) hx hb dX11_cork_46 (by decide) ?_
      obtain ⟨rfl, rfl, rfl⟩ := sm_inj h
      exact gx_ri (post := gq_p (-1) σ_3 τ_3) (v := (-1)) S hr hlk hw rfl dX11_cork_47 ⟨rfl, rfl, rfl⟩
    · rw [if_neg c_4] at h
      refine lv_iload hx hb dX11_cork_41 (lv_at hl 0 rfl) ?_
      refine lv_if_ne (tgt := 48) hx hb dX11_cork_43 (by decide) (fun c_5 => ?_) (fun c_5 => ?_)
      · rw [if_neg c_5] at h
        refine lv_aload_n hx hb dX11_cork_48 rfl (lv_at hl 1 rfl) ?_
        refine gx_getr (j := 152) S hK hw t_0 cl_12 12 (by decide) rfl mw_459 rfl dX11_cork_49 ?_
        refine lv_iload_n hx hb dX11_cork_52 rfl (lv_at hl 2 rfl) ?_
        refine lv_iload_n hx hb dX11_cork_53 rfl (lv_at hl 3 rfl) ?_
        refine lv_iload_n hx hb dX11_cork_54 rfl (lv_at hl 4 rfl) ?_
        obtain ⟨r_6, σ_6, τ_6, q_6, h⟩ := bd_some h
        refine gx_cVi (As := [.int x1, .int x2, .int x3]) (rest := []) S hK gx_ok hw (c_X0_add l (E := E) N σ_3 τ_3 x1 x2 x3 q_6) cw_X11_369 t_152 cl_1 ⟨Nat.le_of_ble_eq_true rfl, Nat.le_of_ble_eq_true rfl⟩ rfl hl.1 rfl (Nat.le_of_ble_eq_true rfl) ⟨Nat.le_of_ble_eq_true rfl, Nat.le_of_ble_eq_true rfl⟩ dX11_cork_55 (fun r9 σ9 τ9 H locs hp hw => ?_)
        obtain ⟨rfl, rfl, rfl⟩ := hp
        refine lv_if_eq (tgt := 71) hx hb dX11_cork_58 (by decide) (fun c_7 => ?_) (fun c_7 => ?_)
        · rw [if_pos c_7] at h
          refine lv_iconst (v := (-1)) hx hb dX11_cork_71 (by decide) ?_
          obtain ⟨rfl, rfl, rfl⟩ := sm_inj h
          exact gx_ri (post := gq_p (-1) σ_6 τ_6) (v := (-1)) S hr hlk hw rfl dX11_cork_72 ⟨rfl, rfl, rfl⟩
        · rw [if_neg c_7] at h
          refine lv_aload_n hx hb dX11_cork_61 rfl (lv_at hl 1 rfl) ?_
          refine gx_getr (j := 152) S hK hw t_0 cl_12 12 (by decide) rfl mw_459 rfl dX11_cork_62 ?_
          refine gx_get S hK hw t_152 cl_1 3 (by decide) rfl mw_340 rfl dX11_cork_65 ?_
          refine lv_goto (tgt := 72) hx hb dX11_cork_68 (by decide) ?_
          obtain ⟨rfl, rfl, rfl⟩ := sm_inj h
          exact gx_ri (post := gq_p (σ_6 152 3) σ_6 τ_6) (v := σ_6 152 3) S hr hlk hw rfl dX11_cork_72 ⟨rfl, rfl, rfl⟩
      · rw [if_pos c_5] at h
        refine lv_iconst (v := (-1)) hx hb dX11_cork_46 (by decide) ?_
        obtain ⟨rfl, rfl, rfl⟩ := sm_inj h
        exact gx_ri (post := gq_p (-1) σ_3 τ_3) (v := (-1)) S hr hlk hw rfl dX11_cork_47 ⟨rfl, rfl, rfl⟩
set_option maxHeartbeats 4000000 in
set_option maxRecDepth 100000 in
theorem b_X11_cork_0 (l : Launch) (S : CallFix P9 m9 C9 cX11_cork 5 s av.toArray gx_G RX11) (hr : meth.sig.returnType = (some .int)) (hlk : meth.locks = false) (hK : gx_K E s) (N : Nat) (σ : gI) (τ : gJ) (x1 : Int32) (x2 : Int32) (x3 : Int32) {r : Int32} {σ1 : gI} {τ1 : gJ} (h : B_X11_cork_0 N σ τ x1 x2 x3 = some (r, σ1, τ1)) {H : Heap} {locs : List Loc} {ls : Array Slot} (hw : gx_W gx_tb gx_tb.length E s σ τ H locs) (hl : lv_has ls 5 [(0, .ref (E.2.2 + 0)), (1, .int x1), (2, .int x2), (3, .int x3)]) : W P9 l e9 (gx_rm 1) s m9 av.toArray below meth C9 H locs 0 0 (gq_Qi below av s E r σ1 τ1) (F0 m9 0 ls []) := by
  have hx := S.1
  have hb := S.2.1
  unfold B_X11_cork_0 at h
  refine lv_iload_n hx hb dX11_cork_0 rfl (lv_at hl 3 rfl) ?_
  refine lv_iconst (v := (-1)) hx hb dX11_cork_1 (by decide) ?_
  refine lv_icmp_eq (tgt := 16) hx hb dX11_cork_2 (by decide) (fun c_1 => ?_) (fun c_1 => ?_)
  · rw [if_pos c_1] at h
    refine lv_iconst (v := 1) hx hb dX11_cork_16 (by decide) ?_
    refine lv_goto (tgt := 21) hx hb dX11_cork_17 (by decide) ?_
    exact b_X11_cork_21 l S hr hlk hK N σ τ x1 x2 x3 1 h hw (lv_sub hl [0, 1, 2, 3] rfl)
  · rw [if_neg c_1] at h
    refine lv_aload_n hx hb dX11_cork_5 rfl (lv_at hl 0 rfl) ?_
    refine gx_getr (j := 3) S hK hw t_0 cl_12 1 (by decide) rfl mw_448 rfl dX11_cork_6 ?_
    refine lv_iload_n hx hb dX11_cork_9 rfl (lv_at hl 3 rfl) ?_
    obtain ⟨r_2, σ_2, τ_2, q_2, h⟩ := bd_some h
    refine gx_cVi (As := [.int x3]) (rest := []) S hK gx_ok hw (c_X8_isKitchen l (E := E) N σ τ x3 q_2) cw_X11_234 t_3 cl_9 ⟨Nat.le_of_ble_eq_true rfl, Nat.le_of_ble_eq_true rfl⟩ rfl hl.1 rfl (Nat.le_of_ble_eq_true rfl) ⟨Nat.le_of_ble_eq_true rfl, Nat.le_of_ble_eq_true rfl⟩ dX11_cork_10 (fun r9 σ9 τ9 H locs hp hw => ?_)
    obtain ⟨rfl, rfl, rfl⟩ := hp
    refine lv_if_eq (tgt := 20) hx hb dX11_cork_13 (by decide) (fun c_3 => ?_) (fun c_3 => ?_)
    · rw [if_pos c_3] at h
      refine lv_iconst (v := 0) hx hb dX11_cork_20 (by decide) ?_
      exact b_X11_cork_21 l S hr hlk hK N σ_2 τ_2 x1 x2 x3 0 h hw (lv_sub hl [0, 1, 2, 3] rfl)
    · rw [if_neg c_3] at h
      refine lv_iconst (v := 1) hx hb dX11_cork_16 (by decide) ?_
      refine lv_goto (tgt := 21) hx hb dX11_cork_17 (by decide) ?_
      exact b_X11_cork_21 l S hr hlk hK N σ_2 τ_2 x1 x2 x3 1 h hw (lv_sub hl [0, 1, 2, 3] rfl)
set_option maxHeartbeats 4000000 in
set_option maxRecDepth 100000 in
theorem c_X11_cork (l : Launch) {E : gE} (N : Nat) (σ : gI) (τ : gJ) (x1 : Int32) (x2 : Int32) (x3 : Int32) {r : Int32} {σ1 : gI} {τ1 : gJ} (h : B_X11_cork_0 N σ τ x1 x2 x3 = some (r, σ1, τ1)) : gx_Mi l yX11_cork cX11_cork 5 (some .int) 1 gx_tb E σ τ [.ref (E.2.2 + 0), .int x1, .int x2, .int x3] (gq_p r σ1 τ1) := by
  refine gx_bi (by decide +kernel) (Nat.le_of_ble_eq_true rfl) ?_
  intro P9 e9 s m9 below meth C9 S hr hlk hK hw ls hl
  have hl : lv_has ls 5 [(0, .ref (E.2.2 + 0)), (1, .int x1), (2, .int x2), (3, .int x3)] := hl
  exact b_X11_cork_0 l S hr hlk hK N σ τ x1 x2 x3 h hw hl
/-! X6_onWay -/
def B_X6_onWay_0 (N : Nat) (c : Nat) (σ : gI) (τ : gJ) : Option (Int32 × gI × gJ) := some (((1 <<< ((σ c 6) &&& 31)) - 1) &&& (((σ c 9) ||| (σ c 10)) ^^^ (-1)), σ, τ)
set_option maxHeartbeats 4000000 in
set_option maxRecDepth 100000 in
theorem b_X6_onWay_0 (l : Launch) (S : CallFix P9 m9 C9 cX6_onWay 1 s av.toArray gx_G RX6) (hr : meth.sig.returnType = (some .int)) (hlk : meth.locks = false) (hK : gx_K E s) (N : Nat) (c : Nat) (tc : gx_isS c) (σ : gI) (τ : gJ) {r : Int32} {σ1 : gI} {τ1 : gJ} (h : B_X6_onWay_0 N c σ τ = some (r, σ1, τ1)) {H : Heap} {locs : List Loc} {ls : Array Slot} (hw : gx_W gx_tb gx_tb.length E s σ τ H locs) (hl : lv_has ls 1 [(0, .ref (E.2.2 + c))]) : W P9 l e9 (gx_rm 0) s m9 av.toArray below meth C9 H locs 0 0 (gq_Qi below av s E r σ1 τ1) (F0 m9 0 ls []) := by
  have hx := S.1
  have hb := S.2.1
  unfold B_X6_onWay_0 at h
  refine lv_iconst (v := 1) hx hb dX6_onWay_0 (by decide) ?_
  refine lv_aload_n hx hb dX6_onWay_1 rfl (lv_at hl 0 rfl) ?_
  refine gx_get S hK hw tc.1 cl_7 6 (by decide) rfl mw_270 rfl dX6_onWay_2 ?_
  refine lv_ishl hx hb dX6_onWay_5 ?_
  refine lv_iconst (v := 1) hx hb dX6_onWay_6 (by decide) ?_
  refine lv_isub hx hb dX6_onWay_7 ?_
  refine lv_aload_n hx hb dX6_onWay_8 rfl (lv_at hl 0 rfl) ?_
  refine gx_get S hK hw tc.1 cl_7 9 (by decide) rfl mw_281 rfl dX6_onWay_9 ?_
  refine lv_aload_n hx hb dX6_onWay_12 rfl (lv_at hl 0 rfl) ?_
  refine gx_get S hK hw tc.1 cl_7 10 (by decide) rfl mw_284 rfl dX6_onWay_13 ?_
  refine lv_ior hx hb dX6_onWay_16 ?_
  refine lv_iconst (v := (-1)) hx hb dX6_onWay_17 (by decide) ?_
  refine lv_ixor hx hb dX6_onWay_18 ?_
  refine lv_iand hx hb dX6_onWay_19 ?_
  obtain ⟨rfl, rfl, rfl⟩ := sm_inj h
  exact gx_ri (post := gq_p (((1 <<< ((σ c 6) &&& 31)) - 1) &&& (((σ c 9) ||| (σ c 10)) ^^^ (-1))) σ τ) (v := ((1 <<< ((σ c 6) &&& 31)) - 1) &&& (((σ c 9) ||| (σ c 10)) ^^^ (-1))) S hr hlk hw rfl dX6_onWay_20 ⟨rfl, rfl, rfl⟩
set_option maxHeartbeats 4000000 in
set_option maxRecDepth 100000 in
theorem c_X6_onWay (l : Launch) {E : gE} (N : Nat) (c : Nat) (tc : gx_isS c) (σ : gI) (τ : gJ) {r : Int32} {σ1 : gI} {τ1 : gJ} (h : B_X6_onWay_0 N c σ τ = some (r, σ1, τ1)) : gx_Mi l yX6_onWay cX6_onWay 1 (some .int) 0 gx_tb E σ τ [.ref (E.2.2 + c)] (gq_p r σ1 τ1) := by
  refine gx_bi (by decide +kernel) (Nat.le_of_ble_eq_true rfl) ?_
  intro P9 e9 s m9 below meth C9 S hr hlk hK hw ls hl
  have hl : lv_has ls 1 [(0, .ref (E.2.2 + c))] := hl
  exact b_X6_onWay_0 l S hr hlk hK N c tc σ τ h hw hl
/-! X11_count -/
def B_X11_count_0 (N : Nat) (σ : gI) (τ : gJ) (x1 : Int32) : Option (Int32 × gI × gJ) := if x1 = 0 then (some (σ 3 6, σ, τ)) else if x1 = 1 then (some (σ 30 6, σ, τ)) else if x1 = 2 then (some (σ 30 8, σ, τ)) else if x1 = 3 then (some (σ 3 7, σ, τ)) else if x1 = 4 then (some (σ 30 7, σ, τ)) else if x1 = 5 then (bd (B_X6_onWay_0 N 30 σ τ) fun r_7 σ_7 τ_7 => some (r_7, σ_7, τ_7)) else if x1 = 6 then (some (σ 30 9, σ, τ)) else if x1 = 7 then (some (σ 30 10, σ, τ)) else if x1 = 8 then (some (σ 44 2, σ, τ)) else if x1 = 9 then (some (σ 152 3, σ, τ)) else if x1 = 10 then (some (σ 156 1, σ, τ)) else if x1 = 11 then (some (σ 1 2, σ, τ)) else (some ((-100), σ, τ))
set_option maxHeartbeats 4000000 in
set_option maxRecDepth 100000 in
theorem b_X11_count_0 (l : Launch) (S : CallFix P9 m9 C9 cX11_count 2 s av.toArray gx_G RX11) (hr : meth.sig.returnType = (some .int)) (hlk : meth.locks = false) (hK : gx_K E s) (N : Nat) (σ : gI) (τ : gJ) (x1 : Int32) {r : Int32} {σ1 : gI} {τ1 : gJ} (h : B_X11_count_0 N σ τ x1 = some (r, σ1, τ1)) {H : Heap} {locs : List Loc} {ls : Array Slot} (hw : gx_W gx_tb gx_tb.length E s σ τ H locs) (hl : lv_has ls 2 [(0, .ref (E.2.2 + 0)), (1, .int x1)]) : W P9 l e9 (gx_rm 1) s m9 av.toArray below meth C9 H locs 0 0 (gq_Qi below av s E r σ1 τ1) (F0 m9 0 ls []) := by
  have hx := S.1
  have hb := S.2.1
  unfold B_X11_count_0 at h
  refine lv_iload_n hx hb dX11_count_0 rfl (lv_at hl 1 rfl) ?_
  by_cases c_1 : x1 = 0
  · rw [if_pos c_1] at h
    refine gx_top (v := 0) c_1 ?_
    refine lv_tableIn (tgt := 64) hx hb dX11_count_1 (by decide) (by decide) rfl (by decide) ?_
    refine lv_aload_n hx hb dX11_count_64 rfl (lv_at hl 0 rfl) ?_
    refine gx_getr (j := 3) S hK hw t_0 cl_12 1 (by decide) rfl mw_448 rfl dX11_count_65 ?_
    refine gx_get S hK hw t_3 cl_9 6 (by decide) rfl mw_155 rfl dX11_count_68 ?_
    obtain ⟨rfl, rfl, rfl⟩ := sm_inj h
    exact gx_ri (post := gq_p (σ 3 6) σ τ) (v := σ 3 6) S hr hlk hw rfl dX11_count_71 ⟨rfl, rfl, rfl⟩
  rw [if_neg c_1] at h
  by_cases c_2 : x1 = 1
  · rw [if_pos c_2] at h
    refine gx_top (v := 1) c_2 ?_
    refine lv_tableIn (tgt := 72) hx hb dX11_count_1 (by decide) (by decide) rfl (by decide) ?_
    refine lv_aload_n hx hb dX11_count_72 rfl (lv_at hl 0 rfl) ?_
    refine gx_getr (j := 30) S hK hw t_0 cl_12 7 (by decide) rfl mw_454 rfl dX11_count_73 ?_
    refine gx_get S hK hw t_30 cl_7 6 (by decide) rfl mw_272 rfl dX11_count_76 ?_
    obtain ⟨rfl, rfl, rfl⟩ := sm_inj h
    exact gx_ri (post := gq_p (σ 30 6) σ τ) (v := σ 30 6) S hr hlk hw rfl dX11_count_79 ⟨rfl, rfl, rfl⟩
  rw [if_neg c_2] at h
  by_cases c_3 : x1 = 2
  · rw [if_pos c_3] at h
    refine gx_top (v := 2) c_3 ?_
    refine lv_tableIn (tgt := 80) hx hb dX11_count_1 (by decide) (by decide) rfl (by decide) ?_
    refine lv_aload_n hx hb dX11_count_80 rfl (lv_at hl 0 rfl) ?_
    refine gx_getr (j := 30) S hK hw t_0 cl_12 7 (by decide) rfl mw_454 rfl dX11_count_81 ?_
    refine gx_get S hK hw t_30 cl_7 8 (by decide) rfl mw_280 rfl dX11_count_84 ?_
    obtain ⟨rfl, rfl, rfl⟩ := sm_inj h
    exact gx_ri (post := gq_p (σ 30 8) σ τ) (v := σ 30 8) S hr hlk hw rfl dX11_count_87 ⟨rfl, rfl, rfl⟩
  rw [if_neg c_3] at h
  by_cases c_4 : x1 = 3
  · rw [if_pos c_4] at h
    refine gx_top (v := 3) c_4 ?_
    refine lv_tableIn (tgt := 88) hx hb dX11_count_1 (by decide) (by decide) rfl (by decide) ?_
    refine lv_aload_n hx hb dX11_count_88 rfl (lv_at hl 0 rfl) ?_
    refine gx_getr (j := 3) S hK hw t_0 cl_12 1 (by decide) rfl mw_448 rfl dX11_count_89 ?_
    refine gx_get S hK hw t_3 cl_9 7 (by decide) rfl mw_158 rfl dX11_count_92 ?_
    obtain ⟨rfl, rfl, rfl⟩ := sm_inj h
    exact gx_ri (post := gq_p (σ 3 7) σ τ) (v := σ 3 7) S hr hlk hw rfl dX11_count_95 ⟨rfl, rfl, rfl⟩
  rw [if_neg c_4] at h
  by_cases c_5 : x1 = 4
  · rw [if_pos c_5] at h
    refine gx_top (v := 4) c_5 ?_
    refine lv_tableIn (tgt := 96) hx hb dX11_count_1 (by decide) (by decide) rfl (by decide) ?_
    refine lv_aload_n hx hb dX11_count_96 rfl (lv_at hl 0 rfl) ?_
    refine gx_getr (j := 30) S hK hw t_0 cl_12 7 (by decide) rfl mw_454 rfl dX11_count_97 ?_
    refine gx_get S hK hw t_30 cl_7 7 (by decide) rfl mw_276 rfl dX11_count_100 ?_
    obtain ⟨rfl, rfl, rfl⟩ := sm_inj h
    exact gx_ri (post := gq_p (σ 30 7) σ τ) (v := σ 30 7) S hr hlk hw rfl dX11_count_103 ⟨rfl, rfl, rfl⟩
  rw [if_neg c_5] at h
  by_cases c_6 : x1 = 5
  · rw [if_pos c_6] at h
    refine gx_top (v := 5) c_6 ?_
    refine lv_tableIn (tgt := 104) hx hb dX11_count_1 (by decide) (by decide) rfl (by decide) ?_
    refine lv_aload_n hx hb dX11_count_104 rfl (lv_at hl 0 rfl) ?_
    refine gx_getr (j := 30) S hK hw t_0 cl_12 7 (by decide) rfl mw_454 rfl dX11_count_105 ?_
    obtain ⟨r_7, σ_7, τ_7, q_7, h⟩ := bd_some h
    refine gx_cVi (As := []) (rest := []) S hK gx_ok hw (c_X6_onWay l (E := E) N 30 is_30 σ τ q_7) cw_X11_166 t_30 cl_7 ⟨Nat.le_of_ble_eq_true rfl, Nat.le_of_ble_eq_true rfl⟩ rfl hl.1 rfl (Nat.le_of_ble_eq_true rfl) ⟨Nat.le_of_ble_eq_true rfl, Nat.le_of_ble_eq_true rfl⟩ dX11_count_108 (fun r9 σ9 τ9 H locs hp hw => ?_)
    obtain ⟨rfl, rfl, rfl⟩ := hp
    obtain ⟨rfl, rfl, rfl⟩ := sm_inj h
    exact gx_ri (post := gq_p r_7 σ_7 τ_7) (v := r_7) S hr hlk hw rfl dX11_count_111 ⟨rfl, rfl, rfl⟩
  rw [if_neg c_6] at h
  by_cases c_8 : x1 = 6
  · rw [if_pos c_8] at h
    refine gx_top (v := 6) c_8 ?_
    refine lv_tableIn (tgt := 112) hx hb dX11_count_1 (by decide) (by decide) rfl (by decide) ?_
    refine lv_aload_n hx hb dX11_count_112 rfl (lv_at hl 0 rfl) ?_
    refine gx_getr (j := 30) S hK hw t_0 cl_12 7 (by decide) rfl mw_454 rfl dX11_count_113 ?_
    refine gx_get S hK hw t_30 cl_7 9 (by decide) rfl mw_283 rfl dX11_count_116 ?_
    obtain ⟨rfl, rfl, rfl⟩ := sm_inj h
    exact gx_ri (post := gq_p (σ 30 9) σ τ) (v := σ 30 9) S hr hlk hw rfl dX11_count_119 ⟨rfl, rfl, rfl⟩
  rw [if_neg c_8] at h
  by_cases c_9 : x1 = 7
  · rw [if_pos c_9] at h
    refine gx_top (v := 7) c_9 ?_
    refine lv_tableIn (tgt := 120) hx hb dX11_count_1 (by decide) (by decide) rfl (by decide) ?_
    refine lv_aload_n hx hb dX11_count_120 rfl (lv_at hl 0 rfl) ?_
    refine gx_getr (j := 30) S hK hw t_0 cl_12 7 (by decide) rfl mw_454 rfl dX11_count_121 ?_
    refine gx_get S hK hw t_30 cl_7 10 (by decide) rfl mw_286 rfl dX11_count_124 ?_
    obtain ⟨rfl, rfl, rfl⟩ := sm_inj h
    exact gx_ri (post := gq_p (σ 30 10) σ τ) (v := σ 30 10) S hr hlk hw rfl dX11_count_127 ⟨rfl, rfl, rfl⟩
  rw [if_neg c_9] at h
  by_cases c_10 : x1 = 8
  · rw [if_pos c_10] at h
    refine gx_top (v := 8) c_10 ?_
    refine lv_tableIn (tgt := 128) hx hb dX11_count_1 (by decide) (by decide) rfl (by decide) ?_
    refine lv_aload_n hx hb dX11_count_128 rfl (lv_at hl 0 rfl) ?_
    refine gx_getr (j := 44) S hK hw t_0 cl_12 9 (by decide) rfl mw_456 rfl dX11_count_129 ?_
    refine gx_get S hK hw t_44 cl_4 2 (by decide) rfl mw_322 rfl dX11_count_132 ?_
    obtain ⟨rfl, rfl, rfl⟩ := sm_inj h
    exact gx_ri (post := gq_p (σ 44 2) σ τ) (v := σ 44 2) S hr hlk hw rfl dX11_count_135 ⟨rfl, rfl, rfl⟩
  rw [if_neg c_10] at h
  by_cases c_11 : x1 = 9
  · rw [if_pos c_11] at h
    refine gx_top (v := 9) c_11 ?_
    refine lv_tableIn (tgt := 136) hx hb dX11_count_1 (by decide) (by decide) rfl (by decide) ?_
    refine lv_aload_n hx hb dX11_count_136 rfl (lv_at hl 0 rfl) ?_
    refine gx_getr (j := 152) S hK hw t_0 cl_12 12 (by decide) rfl mw_459 rfl dX11_count_137 ?_
    refine gx_get S hK hw t_152 cl_1 3 (by decide) rfl mw_340 rfl dX11_count_140 ?_
    obtain ⟨rfl, rfl, rfl⟩ := sm_inj h
    exact gx_ri (post := gq_p (σ 152 3) σ τ) (v := σ 152 3) S hr hlk hw rfl dX11_count_143 ⟨rfl, rfl, rfl⟩
  rw [if_neg c_11] at h
  by_cases c_12 : x1 = 10
  · rw [if_pos c_12] at h
    refine gx_top (v := 10) c_12 ?_
    refine lv_tableIn (tgt := 144) hx hb dX11_count_1 (by decide) (by decide) rfl (by decide) ?_
    refine lv_aload_n hx hb dX11_count_144 rfl (lv_at hl 0 rfl) ?_
    refine gx_getr (j := 156) S hK hw t_0 cl_12 13 (by decide) rfl mw_460 rfl dX11_count_145 ?_
    refine gx_get S hK hw t_156 cl_5 1 (by decide) rfl mw_358 rfl dX11_count_148 ?_
    obtain ⟨rfl, rfl, rfl⟩ := sm_inj h
    exact gx_ri (post := gq_p (σ 156 1) σ τ) (v := σ 156 1) S hr hlk hw rfl dX11_count_151 ⟨rfl, rfl, rfl⟩
  rw [if_neg c_12] at h
  by_cases c_13 : x1 = 11
  · rw [if_pos c_13] at h
    refine gx_top (v := 11) c_13 ?_
    refine lv_tableIn (tgt := 152) hx hb dX11_count_1 (by decide) (by decide) rfl (by decide) ?_
    refine lv_aload_n hx hb dX11_count_152 rfl (lv_at hl 0 rfl) ?_
    refine gx_getr (j := 1) S hK hw t_0 cl_12 0 (by decide) rfl mw_447 rfl dX11_count_153 ?_
    refine gx_get S hK hw t_1 cl_8 2 (by decide) rfl mw_132 rfl dX11_count_156 ?_
    obtain ⟨rfl, rfl, rfl⟩ := sm_inj h
    exact gx_ri (post := gq_p (σ 1 2) σ τ) (v := σ 1 2) S hr hlk hw rfl dX11_count_159 ⟨rfl, rfl, rfl⟩
  rw [if_neg c_13] at h
  refine lv_tableOut (tgt := 160) hx hb dX11_count_1 (by have t_1 := lv_neT (a := 0) c_1 rfl; have t_2 := lv_neT (a := 1) c_2 rfl; have t_3 := lv_neT (a := 2) c_3 rfl; have t_4 := lv_neT (a := 3) c_4 rfl; have t_5 := lv_neT (a := 4) c_5 rfl; have t_6 := lv_neT (a := 5) c_6 rfl; have t_8 := lv_neT (a := 6) c_8 rfl; have t_9 := lv_neT (a := 7) c_9 rfl; have t_10 := lv_neT (a := 8) c_10 rfl; have t_11 := lv_neT (a := 9) c_11 rfl; have t_12 := lv_neT (a := 10) c_12 rfl; have t_13 := lv_neT (a := 11) c_13 rfl; omega) (by decide) ?_
  refine lv_bipush (v := (-100)) hx hb dX11_count_160 (by decide) ?_
  obtain ⟨rfl, rfl, rfl⟩ := sm_inj h
  exact gx_ri (post := gq_p (-100) σ τ) (v := (-100)) S hr hlk hw rfl dX11_count_162 ⟨rfl, rfl, rfl⟩
set_option maxHeartbeats 4000000 in
set_option maxRecDepth 100000 in
theorem c_X11_count (l : Launch) {E : gE} (N : Nat) (σ : gI) (τ : gJ) (x1 : Int32) {r : Int32} {σ1 : gI} {τ1 : gJ} (h : B_X11_count_0 N σ τ x1 = some (r, σ1, τ1)) : gx_Mi l yX11_count cX11_count 2 (some .int) 1 gx_tb E σ τ [.ref (E.2.2 + 0), .int x1] (gq_p r σ1 τ1) := by
  refine gx_bi (by decide +kernel) (Nat.le_of_ble_eq_true rfl) ?_
  intro P9 e9 s m9 below meth C9 S hr hlk hK hw ls hl
  have hl : lv_has ls 2 [(0, .ref (E.2.2 + 0)), (1, .int x1)] := hl
  exact b_X11_count_0 l S hr hlk hK N σ τ x1 h hw hl
/-! J0_isLatin1_aae02 -/
def B_J0_isLatin1_aae02_0 (N : Nat) (bs : List Int32) (σ : gI) (τ : gJ) : Option (Int32 × gI × gJ) := some (1, σ, τ)
set_option maxHeartbeats 4000000 in
set_option maxRecDepth 100000 in
theorem b_J0_isLatin1_aae02_0 (l : Launch) (S : CallFix P9 m9 C9 cJ0_isLatin1_aae02 1 s av.toArray gx_G RJ0) (hr : meth.sig.returnType = (some .boolean)) (hlk : meth.locks = false) (hK : gx_K E s) (N : Nat) (bs : List Int32) (hZ : zs_A bs a9 v9 E s s.heap s.heap.size) (σ : gI) (τ : gJ) {r : Int32} {σ1 : gI} {τ1 : gJ} (h : B_J0_isLatin1_aae02_0 N bs σ τ = some (r, σ1, τ1)) {H : Heap} {locs : List Loc} {ls : Array Slot} (hw : gx_W gx_tb gx_tb.length E s σ τ H locs) (hl : lv_has ls 1 [(0, .ref a9)]) : W P9 l e9 (gx_rm 0) s m9 av.toArray below meth C9 H locs 0 0 (gq_Qi below av s E r σ1 τ1) (F0 m9 0 ls []) := by
  have hx := S.1
  have hb := S.2.1
  unfold B_J0_isLatin1_aae02_0 at h
  refine gx_cs S hK hw mw_560 dJ0_isLatin1_aae02_0 ?_
  refine lv_if_eq (tgt := 17) hx hb dJ0_isLatin1_aae02_3 (by decide) (fun h9 => absurd h9 (by decide)) (fun _ => ?_)
  refine lv_aload_n hx hb dJ0_isLatin1_aae02_6 rfl (lv_at hl 0 rfl) ?_
  refine zs_cod S hZ hw mw_1698 dJ0_isLatin1_aae02_7 ?_
  refine lv_if_ne (tgt := 17) hx hb dJ0_isLatin1_aae02_10 (by decide) (fun h9 => absurd (by decide) h9) (fun _ => ?_)
  refine lv_iconst (v := 1) hx hb dJ0_isLatin1_aae02_13 (by decide) ?_
  refine lv_goto (tgt := 18) hx hb dJ0_isLatin1_aae02_14 (by decide) ?_
  obtain ⟨rfl, rfl, rfl⟩ := sm_inj h
  exact gx_ri (post := gq_p 1 σ τ) (v := 1) S hr hlk hw rfl dJ0_isLatin1_aae02_18 ⟨rfl, rfl, rfl⟩
set_option maxHeartbeats 4000000 in
set_option maxRecDepth 100000 in
theorem c_J0_isLatin1_aae02 (l : Launch) {E : gE} (N : Nat) (bs : List Int32) (σ : gI) (τ : gJ) {r : Int32} {σ1 : gI} {τ1 : gJ} (h : B_J0_isLatin1_aae02_0 N bs σ τ = some (r, σ1, τ1)) : gx_Zi l yJ0_isLatin1_aae02 cJ0_isLatin1_aae02 1 (some .boolean) 0 E bs σ τ (fun a9 v9 => [.ref a9]) (gq_p r σ1 τ1) := by
  refine zs_bi (by decide +kernel) (fun a9 v9 => Nat.le_of_ble_eq_true rfl) ?_
  intro a9 v9 P9 e9 s m9 below meth C9 S hr hlk hK hZ hw ls hl
  have hl : lv_has ls 1 [(0, .ref a9)] := hl
  exact b_J0_isLatin1_aae02_0 l S hr hlk hK N bs hZ σ τ h hw hl
/-! J0_coder_7d493 -/
def B_J0_coder_7d493_0 (N : Nat) (bs : List Int32) (σ : gI) (τ : gJ) : Option (Int32 × gI × gJ) := some (0, σ, τ)
set_option maxHeartbeats 4000000 in
set_option maxRecDepth 100000 in
theorem b_J0_coder_7d493_0 (l : Launch) (S : CallFix P9 m9 C9 cJ0_coder_7d493 1 s av.toArray gx_G RJ0) (hr : meth.sig.returnType = (some .byte)) (hlk : meth.locks = false) (hK : gx_K E s) (N : Nat) (bs : List Int32) (hZ : zs_A bs a9 v9 E s s.heap s.heap.size) (σ : gI) (τ : gJ) {r : Int32} {σ1 : gI} {τ1 : gJ} (h : B_J0_coder_7d493_0 N bs σ τ = some (r, σ1, τ1)) {H : Heap} {locs : List Loc} {ls : Array Slot} (hw : gx_W gx_tb gx_tb.length E s σ τ H locs) (hl : lv_has ls 1 [(0, .ref a9)]) : W P9 l e9 (gx_rm 0) s m9 av.toArray below meth C9 H locs 0 0 (gq_Qi below av s E r σ1 τ1) (F0 m9 0 ls []) := by
  have hx := S.1
  have hb := S.2.1
  unfold B_J0_coder_7d493_0 at h
  refine gx_cs S hK hw mw_560 dJ0_coder_7d493_0 ?_
  refine lv_if_eq (tgt := 13) hx hb dJ0_coder_7d493_3 (by decide) (fun h9 => absurd h9 (by decide)) (fun _ => ?_)
  refine lv_aload_n hx hb dJ0_coder_7d493_6 rfl (lv_at hl 0 rfl) ?_
  refine zs_cod S hZ hw mw_1698 dJ0_coder_7d493_7 ?_
  refine lv_goto (tgt := 14) hx hb dJ0_coder_7d493_10 (by decide) ?_
  obtain ⟨rfl, rfl, rfl⟩ := sm_inj h
  exact gx_ri (post := gq_p 0 σ τ) (v := 0) S hr hlk hw rfl dJ0_coder_7d493_14 ⟨rfl, rfl, rfl⟩
set_option maxHeartbeats 4000000 in
set_option maxRecDepth 100000 in
theorem c_J0_coder_7d493 (l : Launch) {E : gE} (N : Nat) (bs : List Int32) (σ : gI) (τ : gJ) {r : Int32} {σ1 : gI} {τ1 : gJ} (h : B_J0_coder_7d493_0 N bs σ τ = some (r, σ1, τ1)) : gx_Zi l yJ0_coder_7d493 cJ0_coder_7d493 1 (some .byte) 0 E bs σ τ (fun a9 v9 => [.ref a9]) (gq_p r σ1 τ1) := by
  refine zs_bi (by decide +kernel) (fun a9 v9 => Nat.le_of_ble_eq_true rfl) ?_
  intro a9 v9 P9 e9 s m9 below meth C9 S hr hlk hK hZ hw ls hl
  have hl : lv_has ls 1 [(0, .ref a9)] := hl
  exact b_J0_coder_7d493_0 l S hr hlk hK N bs hZ σ τ h hw hl
/-! J0_length_8abf5 -/
def B_J0_length_8abf5_0 (N : Nat) (bs : List Int32) (σ : gI) (τ : gJ) : Option (Int32 × gI × gJ) := bd (B_J0_coder_7d493_0 N bs σ τ) fun r_1 σ_1 τ_1 => some ((Int32.ofNat bs.length) >>> (r_1 &&& 31), σ_1, τ_1)
set_option maxHeartbeats 4000000 in
set_option maxRecDepth 100000 in
theorem b_J0_length_8abf5_0 (l : Launch) (S : CallFix P9 m9 C9 cJ0_length_8abf5 1 s av.toArray gx_G RJ0) (hr : meth.sig.returnType = (some .int)) (hlk : meth.locks = false) (hK : gx_K E s) (N : Nat) (bs : List Int32) (hZ : zs_A bs a9 v9 E s s.heap s.heap.size) (σ : gI) (τ : gJ) {r : Int32} {σ1 : gI} {τ1 : gJ} (h : B_J0_length_8abf5_0 N bs σ τ = some (r, σ1, τ1)) {H : Heap} {locs : List Loc} {ls : Array Slot} (hw : gx_W gx_tb gx_tb.length E s σ τ H locs) (hl : lv_has ls 1 [(0, .ref a9)]) : W P9 l e9 (gx_rm 1) s m9 av.toArray below meth C9 H locs 0 0 (gq_Qi below av s E r σ1 τ1) (F0 m9 0 ls []) := by
  have hx := S.1
  have hb := S.2.1
  unfold B_J0_length_8abf5_0 at h
  refine lv_aload_n hx hb dJ0_length_8abf5_0 rfl (lv_at hl 0 rfl) ?_
  refine zs_val S hZ hw mw_1697 dJ0_length_8abf5_1 ?_
  refine zs_len S hZ hw dJ0_length_8abf5_4 ?_
  refine lv_aload_n hx hb dJ0_length_8abf5_5 rfl (lv_at hl 0 rfl) ?_
  obtain ⟨r_1, σ_1, τ_1, q_1, h⟩ := bd_some h
  refine zs_V (As := []) (rest := [.int (Int32.ofNat bs.length)]) S hK hw (zs_h hZ hw) (c_J0_coder_7d493 l (E := E) N bs σ τ q_1) rfl cw_J0_335 (zs_r (zs_h hZ hw) rfl) ⟨Nat.le_of_ble_eq_true rfl, Nat.le_of_ble_eq_true rfl⟩ rfl hl.1 rfl (Nat.le_of_ble_eq_true rfl) ⟨Nat.le_of_ble_eq_true rfl, Nat.le_of_ble_eq_true rfl⟩ dJ0_length_8abf5_6 (fun r9 σ9 τ9 H locs hp hw => ?_)
  obtain ⟨rfl, rfl, rfl⟩ := hp
  refine lv_ishr hx hb dJ0_length_8abf5_9 ?_
  obtain ⟨rfl, rfl, rfl⟩ := sm_inj h
  exact gx_ri (post := gq_p ((Int32.ofNat bs.length) >>> (r_1 &&& 31)) σ_1 τ_1) (v := (Int32.ofNat bs.length) >>> (r_1 &&& 31)) S hr hlk hw rfl dJ0_length_8abf5_10 ⟨rfl, rfl, rfl⟩
set_option maxHeartbeats 4000000 in
set_option maxRecDepth 100000 in
theorem c_J0_length_8abf5 (l : Launch) {E : gE} (N : Nat) (bs : List Int32) (σ : gI) (τ : gJ) {r : Int32} {σ1 : gI} {τ1 : gJ} (h : B_J0_length_8abf5_0 N bs σ τ = some (r, σ1, τ1)) : gx_Zi l yJ0_length_8abf5 cJ0_length_8abf5 1 (some .int) 1 E bs σ τ (fun a9 v9 => [.ref a9]) (gq_p r σ1 τ1) := by
  refine zs_bi (by decide +kernel) (fun a9 v9 => Nat.le_of_ble_eq_true rfl) ?_
  intro a9 v9 P9 e9 s m9 below meth C9 S hr hlk hK hZ hw ls hl
  have hl : lv_has ls 1 [(0, .ref a9)] := hl
  exact b_J0_length_8abf5_0 l S hr hlk hK N bs hZ σ τ h hw hl
/-! J1_canEncode_9a6ad -/
def B_J1_canEncode_9a6ad_0 (N : Nat) (σ : gI) (τ : gJ) (x0 : Int32) : Option (Int32 × gI × gJ) := if x0 < 0 then (some (0, σ, τ)) else (if 255 < x0 then (some (0, σ, τ)) else (some (1, σ, τ)))
set_option maxHeartbeats 4000000 in
set_option maxRecDepth 100000 in
theorem b_J1_canEncode_9a6ad_0 (l : Launch) (S : CallFix P9 m9 C9 cJ1_canEncode_9a6ad 1 s av.toArray gx_G RJ1) (hr : meth.sig.returnType = (some .boolean)) (hlk : meth.locks = false) (hK : gx_K E s) (N : Nat) (σ : gI) (τ : gJ) (x0 : Int32) {r : Int32} {σ1 : gI} {τ1 : gJ} (h : B_J1_canEncode_9a6ad_0 N σ τ x0 = some (r, σ1, τ1)) {H : Heap} {locs : List Loc} {ls : Array Slot} (hw : gx_W gx_tb gx_tb.length E s σ τ H locs) (hl : lv_has ls 1 [(0, .int x0)]) : W P9 l e9 (gx_rm 0) s m9 av.toArray below meth C9 H locs 0 0 (gq_Qi below av s E r σ1 τ1) (F0 m9 0 ls []) := by
  have hx := S.1
  have hb := S.2.1
  unfold B_J1_canEncode_9a6ad_0 at h
  refine lv_iload_n hx hb dJ1_canEncode_9a6ad_0 rfl (lv_at hl 0 rfl) ?_
  refine lv_if_lt (tgt := 15) hx hb dJ1_canEncode_9a6ad_1 (by decide) (fun c_1 => ?_) (fun c_1 => ?_)
  · rw [if_pos c_1] at h
    refine lv_iconst (v := 0) hx hb dJ1_canEncode_9a6ad_15 (by decide) ?_
    obtain ⟨rfl, rfl, rfl⟩ := sm_inj h
    exact gx_ri (post := gq_p 0 σ τ) (v := 0) S hr hlk hw rfl dJ1_canEncode_9a6ad_16 ⟨rfl, rfl, rfl⟩
  · rw [if_neg c_1] at h
    refine lv_iload_n hx hb dJ1_canEncode_9a6ad_4 rfl (lv_at hl 0 rfl) ?_
    refine lv_sipush (v := 255) hx hb dJ1_canEncode_9a6ad_5 (by decide) ?_
    refine lv_icmp_gt (tgt := 15) hx hb dJ1_canEncode_9a6ad_8 (by decide) (fun c_2 => ?_) (fun c_2 => ?_)
    · rw [if_pos c_2] at h
      refine lv_iconst (v := 0) hx hb dJ1_canEncode_9a6ad_15 (by decide) ?_
      obtain ⟨rfl, rfl, rfl⟩ := sm_inj h
      exact gx_ri (post := gq_p 0 σ τ) (v := 0) S hr hlk hw rfl dJ1_canEncode_9a6ad_16 ⟨rfl, rfl, rfl⟩
    · rw [if_neg c_2] at h
      refine lv_iconst (v := 1) hx hb dJ1_canEncode_9a6ad_11 (by decide) ?_
      refine lv_goto (tgt := 16) hx hb dJ1_canEncode_9a6ad_12 (by decide) ?_
      obtain ⟨rfl, rfl, rfl⟩ := sm_inj h
      exact gx_ri (post := gq_p 1 σ τ) (v := 1) S hr hlk hw rfl dJ1_canEncode_9a6ad_16 ⟨rfl, rfl, rfl⟩
set_option maxHeartbeats 4000000 in
set_option maxRecDepth 100000 in
theorem c_J1_canEncode_9a6ad (l : Launch) {E : gE} (N : Nat) (σ : gI) (τ : gJ) (x0 : Int32) {r : Int32} {σ1 : gI} {τ1 : gJ} (h : B_J1_canEncode_9a6ad_0 N σ τ x0 = some (r, σ1, τ1)) : gx_Mi l yJ1_canEncode_9a6ad cJ1_canEncode_9a6ad 1 (some .boolean) 0 gx_tb E σ τ [.int x0] (gq_p r σ1 τ1) := by
  refine gx_bi (by decide +kernel) (Nat.le_of_ble_eq_true rfl) ?_
  intro P9 e9 s m9 below meth C9 S hr hlk hK hw ls hl
  have hl : lv_has ls 1 [(0, .int x0)] := hl
  exact b_J1_canEncode_9a6ad_0 l S hr hlk hK N σ τ x0 h hw hl
/-! J1_indexOfChar_4cfef -/
def C_J1_indexOfChar_4cfef_7 (N : Nat) (bs : List Int32) (rec_7 : gI → gJ → Int32 → Int32 → Int32 → Option (Int32 × gI × gJ)) (σ : gI) (τ : gJ) (x3 : Int32) (x4 : Int32) (x5 : Int32) : Option (Int32 × gI × gJ) := if x3 ≤ x5 then (some ((-1), σ, τ)) else (ck x5 bs.length fun j_2 => if bs.getD j_2 0 = x4 then (some (x5, σ, τ)) else (nm (x5 + 1) fun v_4 => rec_7 σ τ x3 x4 v_4))
def H_J1_indexOfChar_4cfef_7 (N : Nat) (bs : List Int32) : Nat → gI → gJ → Int32 → Int32 → Int32 → Option (Int32 × gI × gJ) := itn (fun rec_7 => C_J1_indexOfChar_4cfef_7 N bs rec_7) (fun _ _ _ _ _ => none)
def B_J1_indexOfChar_4cfef_0 (N : Nat) (bs : List Int32) (σ : gI) (τ : gJ) (x1 : Int32) (x2 : Int32) (x3 : Int32) : Option (Int32 × gI × gJ) := nm (x1.toInt8.toInt32) fun v_1 => H_J1_indexOfChar_4cfef_7 N bs N σ τ x3 v_1 x2
set_option maxHeartbeats 4000000 in
set_option maxRecDepth 100000 in
theorem k_J1_indexOfChar_4cfef_7 (l : Launch) (S : CallFix P9 m9 C9 cJ1_indexOfChar_4cfef 6 s av.toArray gx_G RJ1) (hr : meth.sig.returnType = (some .int)) (hlk : meth.locks = false) (hK : gx_K E s) (N : Nat) (bs : List Int32) (hZ : zs_A bs a9 v9 E s s.heap s.heap.size) (rec_7 : gI → gJ → Int32 → Int32 → Int32 → Option (Int32 × gI × gJ)) (hrec_7 : ∀ (σ : gI) (τ : gJ) (x3 : Int32) (x4 : Int32) (x5 : Int32) (r : Int32) (σ1 : gI) (τ1 : gJ) (H : Heap) (locs : List Loc) (ls : Array Slot), rec_7 σ τ x3 x4 x5 = some (r, σ1, τ1) → gx_W gx_tb gx_tb.length E s σ τ H locs → lv_has ls 6 [(0, .ref v9), (3, .int x3), (4, .int x4), (5, .int x5)] → W P9 l e9 (gx_rm 0) s m9 av.toArray below meth C9 H locs 0 0 (gq_Qi below av s E r σ1 τ1) (F0 m9 7 ls [])) (σ : gI) (τ : gJ) (x3 : Int32) (x4 : Int32) (x5 : Int32) {r : Int32} {σ1 : gI} {τ1 : gJ} (h : C_J1_indexOfChar_4cfef_7 N bs rec_7 σ τ x3 x4 x5 = some (r, σ1, τ1)) {H : Heap} {locs : List Loc} {ls : Array Slot} (hw : gx_W gx_tb gx_tb.length E s σ τ H locs) (hl : lv_has ls 6 [(0, .ref v9), (3, .int x3), (4, .int x4), (5, .int x5)]) : W P9 l e9 (gx_rm 0) s m9 av.toArray below meth C9 H locs 0 0 (gq_Qi below av s E r σ1 τ1) (F0 m9 7 ls []) := by
  have hx := S.1
  have hb := S.2.1
  unfold C_J1_indexOfChar_4cfef_7 at h
  refine lv_iload hx hb dJ1_indexOfChar_4cfef_7 (lv_at hl 3 rfl) ?_
  refine lv_iload_n hx hb dJ1_indexOfChar_4cfef_9 rfl (lv_at hl 1 rfl) ?_
  refine lv_icmp_ge (tgt := 31) hx hb dJ1_indexOfChar_4cfef_10 (by decide) (fun c_1 => ?_) (fun c_1 => ?_)
  · rw [if_pos c_1] at h
    refine lv_iconst (v := (-1)) hx hb dJ1_indexOfChar_4cfef_31 (by decide) ?_
    obtain ⟨rfl, rfl, rfl⟩ := sm_inj h
    exact gx_ri (post := gq_p (-1) σ τ) (v := (-1)) S hr hlk hw rfl dJ1_indexOfChar_4cfef_32 ⟨rfl, rfl, rfl⟩
  · rw [if_neg c_1] at h
    refine lv_aload_n hx hb dJ1_indexOfChar_4cfef_13 rfl (lv_at hl 0 rfl) ?_
    refine lv_iload hx hb dJ1_indexOfChar_4cfef_14 (lv_at hl 3 rfl) ?_
    obtain ⟨j_2, hj_2, hi_2, h⟩ := ck_some h
    refine zs_bal S hZ hw j_2 hj_2 hi_2 dJ1_indexOfChar_4cfef_16 ?_
    refine lv_iload hx hb dJ1_indexOfChar_4cfef_17 (lv_at hl 2 rfl) ?_
    refine lv_icmp_ne (tgt := 25) hx hb dJ1_indexOfChar_4cfef_19 (by decide) (fun c_3 => ?_) (fun c_3 => ?_)
    · rw [if_neg c_3] at h
      refine lv_iinc (v := x5 + 1) (lv' := [(5, .int (x5 + 1)), (0, .ref v9), (3, .int x3), (4, .int x4)]) hx hb dJ1_indexOfChar_4cfef_25 hl (k := 3) rfl rfl (by decide) rfl (fun ls hl => ?_)
      obtain ⟨v_4, e_4, h⟩ := nm_some h
      have hl : lv_has ls 6 [(5, .int v_4), (0, .ref v9), (3, .int x3), (4, .int x4)] := by rw [e_4]; exact hl
      refine lv_goto (tgt := 7) hx hb dJ1_indexOfChar_4cfef_28 (by decide) ?_
      exact hrec_7 σ τ x3 x4 v_4 _ _ _ _ _ _ h hw (lv_sub hl [1, 2, 3, 0] rfl)
    · rw [if_pos c_3] at h
      refine lv_iload hx hb dJ1_indexOfChar_4cfef_22 (lv_at hl 3 rfl) ?_
      obtain ⟨rfl, rfl, rfl⟩ := sm_inj h
      exact gx_ri (post := gq_p x5 σ τ) (v := x5) S hr hlk hw rfl dJ1_indexOfChar_4cfef_24 ⟨rfl, rfl, rfl⟩
set_option maxHeartbeats 4000000 in
set_option maxRecDepth 100000 in
theorem h_J1_indexOfChar_4cfef_7 (l : Launch) (S : CallFix P9 m9 C9 cJ1_indexOfChar_4cfef 6 s av.toArray gx_G RJ1) (hr : meth.sig.returnType = (some .int)) (hlk : meth.locks = false) (hK : gx_K E s) (N : Nat) (bs : List Int32) (hZ : zs_A bs a9 v9 E s s.heap s.heap.size) : ∀ (n : Nat) (σ : gI) (τ : gJ) (x3 : Int32) (x4 : Int32) (x5 : Int32) (r : Int32) (σ1 : gI) (τ1 : gJ), H_J1_indexOfChar_4cfef_7 N bs n σ τ x3 x4 x5 = some (r, σ1, τ1) → ∀ (H : Heap) (locs : List Loc) (ls : Array Slot), gx_W gx_tb gx_tb.length E s σ τ H locs → lv_has ls 6 [(0, .ref v9), (3, .int x3), (4, .int x4), (5, .int x5)] → W P9 l e9 (gx_rm 0) s m9 av.toArray below meth C9 H locs 0 0 (gq_Qi below av s E r σ1 τ1) (F0 m9 7 ls []) := by
  intro n
  induction n with
  | zero => intro σ τ x3 x4 x5 r σ1 τ1 h; cases h
  | succ n ih =>
    intro σ τ x3 x4 x5 r σ1 τ1 h H locs ls hw hl
    exact k_J1_indexOfChar_4cfef_7 l S hr hlk hK N bs hZ (H_J1_indexOfChar_4cfef_7 N bs n) (fun σ τ x3 x4 x5 r σ1 τ1 H locs ls h hw hl => ih σ τ x3 x4 x5 r σ1 τ1 h H locs ls hw hl) σ τ x3 x4 x5 h hw hl
set_option maxHeartbeats 4000000 in
set_option maxRecDepth 100000 in
theorem b_J1_indexOfChar_4cfef_0 (l : Launch) (S : CallFix P9 m9 C9 cJ1_indexOfChar_4cfef 6 s av.toArray gx_G RJ1) (hr : meth.sig.returnType = (some .int)) (hlk : meth.locks = false) (hK : gx_K E s) (N : Nat) (bs : List Int32) (hZ : zs_A bs a9 v9 E s s.heap s.heap.size) (σ : gI) (τ : gJ) (x1 : Int32) (x2 : Int32) (x3 : Int32) {r : Int32} {σ1 : gI} {τ1 : gJ} (h : B_J1_indexOfChar_4cfef_0 N bs σ τ x1 x2 x3 = some (r, σ1, τ1)) {H : Heap} {locs : List Loc} {ls : Array Slot} (hw : gx_W gx_tb gx_tb.length E s σ τ H locs) (hl : lv_has ls 6 [(0, .ref v9), (1, .int x1), (2, .int x2), (3, .int x3)]) : W P9 l e9 (gx_rm 0) s m9 av.toArray below meth C9 H locs 0 0 (gq_Qi below av s E r σ1 τ1) (F0 m9 0 ls []) := by
  have hx := S.1
  have hb := S.2.1
  unfold B_J1_indexOfChar_4cfef_0 at h
  refine lv_iload_n hx hb dJ1_indexOfChar_4cfef_0 rfl (lv_at hl 1 rfl) ?_
  refine lv_i2b (v := x1.toInt8.toInt32) hx hb dJ1_indexOfChar_4cfef_1 rfl ?_
  refine lv_istore (lv' := [(4, .int x1.toInt8.toInt32), (0, .ref v9), (1, .int x1), (2, .int x2), (3, .int x3)]) hx hb dJ1_indexOfChar_4cfef_2 hl (by decide) rfl (fun ls hl => ?_)
  obtain ⟨v_1, e_1, h⟩ := nm_some h
  have hl : lv_has ls 6 [(4, .int v_1), (0, .ref v9), (1, .int x1), (2, .int x2), (3, .int x3)] := by rw [e_1]; exact hl
  refine lv_iload_n hx hb dJ1_indexOfChar_4cfef_4 rfl (lv_at hl 3 rfl) ?_
  refine lv_istore (lv' := [(5, .int x2), (4, .int v_1), (0, .ref v9), (1, .int x1), (2, .int x2), (3, .int x3)]) hx hb dJ1_indexOfChar_4cfef_5 hl (by decide) rfl (fun ls hl => ?_)
  exact h_J1_indexOfChar_4cfef_7 l S hr hlk hK N bs hZ N σ τ x3 v_1 x2 _ _ _ h _ _ _ hw (lv_sub hl [2, 5, 1, 0] rfl)
set_option maxHeartbeats 4000000 in
set_option maxRecDepth 100000 in
theorem c_J1_indexOfChar_4cfef (l : Launch) {E : gE} (N : Nat) (bs : List Int32) (σ : gI) (τ : gJ) (x1 : Int32) (x2 : Int32) (x3 : Int32) {r : Int32} {σ1 : gI} {τ1 : gJ} (h : B_J1_indexOfChar_4cfef_0 N bs σ τ x1 x2 x3 = some (r, σ1, τ1)) : gx_Zi l yJ1_indexOfChar_4cfef cJ1_indexOfChar_4cfef 6 (some .int) 0 E bs σ τ (fun a9 v9 => [.ref v9, .int x1, .int x2, .int x3]) (gq_p r σ1 τ1) := by
  refine zs_bi (by decide +kernel) (fun a9 v9 => Nat.le_of_ble_eq_true rfl) ?_
  intro a9 v9 P9 e9 s m9 below meth C9 S hr hlk hK hZ hw ls hl
  have hl : lv_has ls 6 [(0, .ref v9), (1, .int x1), (2, .int x2), (3, .int x3)] := hl
  exact b_J1_indexOfChar_4cfef_0 l S hr hlk hK N bs hZ σ τ x1 x2 x3 h hw hl
/-! J1_indexOf_4cfef -/
def B_J1_indexOf_4cfef_0 (N : Nat) (bs : List Int32) (σ : gI) (τ : gJ) (x1 : Int32) (x2 : Int32) (x3 : Int32) : Option (Int32 × gI × gJ) := bd (B_J1_canEncode_9a6ad_0 N σ τ x1) fun r_1 σ_1 τ_1 => if r_1 = 0 then (some ((-1), σ_1, τ_1)) else (nm (imax x2 0) fun v_3 => nm (imin x3 (Int32.ofNat bs.length)) fun v_4 => if v_3 < v_4 then (bd (B_J1_indexOfChar_4cfef_0 N bs σ_1 τ_1 x1 v_3 v_4) fun r_6 σ_6 τ_6 => some (r_6, σ_6, τ_6)) else (some ((-1), σ_1, τ_1)))
set_option maxHeartbeats 4000000 in
set_option maxRecDepth 100000 in
theorem b_J1_indexOf_4cfef_0 (l : Launch) (S : CallFix P9 m9 C9 cJ1_indexOf_4cfef 4 s av.toArray gx_G RJ1) (hr : meth.sig.returnType = (some .int)) (hlk : meth.locks = false) (hK : gx_K E s) (N : Nat) (bs : List Int32) (hZ : zs_A bs a9 v9 E s s.heap s.heap.size) (σ : gI) (τ : gJ) (x1 : Int32) (x2 : Int32) (x3 : Int32) {r : Int32} {σ1 : gI} {τ1 : gJ} (h : B_J1_indexOf_4cfef_0 N bs σ τ x1 x2 x3 = some (r, σ1, τ1)) {H : Heap} {locs : List Loc} {ls : Array Slot} (hw : gx_W gx_tb gx_tb.length E s σ τ H locs) (hl : lv_has ls 4 [(0, .ref v9), (1, .int x1), (2, .int x2), (3, .int x3)]) : W P9 l e9 (gx_rm 1) s m9 av.toArray below meth C9 H locs 0 0 (gq_Qi below av s E r σ1 τ1) (F0 m9 0 ls []) := by
  have hx := S.1
  have hb := S.2.1
  unfold B_J1_indexOf_4cfef_0 at h
  refine lv_iload_n hx hb dJ1_indexOf_4cfef_0 rfl (lv_at hl 1 rfl) ?_
  obtain ⟨r_1, σ_1, τ_1, q_1, h⟩ := bd_some h
  refine gx_cSi (As := [.int x1]) (rest := []) S hK gx_ok hw (c_J1_canEncode_9a6ad l (E := E) N σ τ x1 q_1) cw_J1_88 ⟨Nat.le_of_ble_eq_true rfl, Nat.le_of_ble_eq_true rfl⟩ rfl hl.1 rfl (Nat.le_of_ble_eq_true rfl) ⟨Nat.le_of_ble_eq_true rfl, Nat.le_of_ble_eq_true rfl⟩ dJ1_indexOf_4cfef_1 (fun r9 σ9 τ9 H locs hp hw => ?_)
  obtain ⟨rfl, rfl, rfl⟩ := hp
  refine lv_if_ne (tgt := 9) hx hb dJ1_indexOf_4cfef_4 (by decide) (fun c_2 => ?_) (fun c_2 => ?_)
  · rw [if_neg c_2] at h
    refine lv_iload_n hx hb dJ1_indexOf_4cfef_9 rfl (lv_at hl 2 rfl) ?_
    refine lv_iconst (v := 0) hx hb dJ1_indexOf_4cfef_10 (by decide) ?_
    refine gx_max (w := imax x2 0) S hl.1 mw_576 mw_577 mw_102 mw_578 ⟨Nat.le_of_ble_eq_true rfl, Nat.le_of_ble_eq_true rfl⟩ ⟨Nat.le_of_ble_eq_true rfl, Nat.le_of_ble_eq_true rfl⟩ dJ1_indexOf_4cfef_11 rfl ?_
    refine lv_istore_n (lv' := [(2, .int (imax x2 0)), (0, .ref v9), (1, .int x1), (3, .int x3)]) hx hb dJ1_indexOf_4cfef_14 rfl hl (by decide) rfl (fun ls hl => ?_)
    obtain ⟨v_3, e_3, h⟩ := nm_some h
    have hl : lv_has ls 4 [(2, .int v_3), (0, .ref v9), (1, .int x1), (3, .int x3)] := by rw [e_3]; exact hl
    refine lv_iload_n hx hb dJ1_indexOf_4cfef_15 rfl (lv_at hl 3 rfl) ?_
    refine lv_aload_n hx hb dJ1_indexOf_4cfef_16 rfl (lv_at hl 1 rfl) ?_
    refine zs_len S hZ hw dJ1_indexOf_4cfef_17 ?_
    refine gx_min (w := imin x3 (Int32.ofNat bs.length)) S hl.1 mw_579 mw_529 mw_102 mw_530 ⟨Nat.le_of_ble_eq_true rfl, Nat.le_of_ble_eq_true rfl⟩ ⟨Nat.le_of_ble_eq_true rfl, Nat.le_of_ble_eq_true rfl⟩ dJ1_indexOf_4cfef_18 rfl ?_
    refine lv_istore_n (lv' := [(3, .int (imin x3 (Int32.ofNat bs.length))), (2, .int v_3), (0, .ref v9), (1, .int x1)]) hx hb dJ1_indexOf_4cfef_21 rfl hl (by decide) rfl (fun ls hl => ?_)
    obtain ⟨v_4, e_4, h⟩ := nm_some h
    have hl : lv_has ls 4 [(3, .int v_4), (2, .int v_3), (0, .ref v9), (1, .int x1)] := by rw [e_4]; exact hl
    refine lv_iload_n hx hb dJ1_indexOf_4cfef_22 rfl (lv_at hl 1 rfl) ?_
    refine lv_iload_n hx hb dJ1_indexOf_4cfef_23 rfl (lv_at hl 0 rfl) ?_
    refine lv_icmp_lt (tgt := 29) hx hb dJ1_indexOf_4cfef_24 (by decide) (fun c_5 => ?_) (fun c_5 => ?_)
    · rw [if_pos c_5] at h
      refine lv_aload_n hx hb dJ1_indexOf_4cfef_29 rfl (lv_at hl 2 rfl) ?_
      refine lv_iload_n hx hb dJ1_indexOf_4cfef_30 rfl (lv_at hl 3 rfl) ?_
      refine lv_iload_n hx hb dJ1_indexOf_4cfef_31 rfl (lv_at hl 1 rfl) ?_
      refine lv_iload_n hx hb dJ1_indexOf_4cfef_32 rfl (lv_at hl 0 rfl) ?_
      obtain ⟨r_6, σ_6, τ_6, q_6, h⟩ := bd_some h
      refine zs_S (As := [.ref v9, .int x1, .int v_3, .int v_4]) (rest := []) S hK hw (zs_h hZ hw) (c_J1_indexOfChar_4cfef l (E := E) N bs σ_1 τ_1 x1 v_3 v_4 q_6) rfl cw_J1_95 ⟨Nat.le_of_ble_eq_true rfl, Nat.le_of_ble_eq_true rfl⟩ rfl hl.1 rfl (Nat.le_of_ble_eq_true rfl) ⟨Nat.le_of_ble_eq_true rfl, Nat.le_of_ble_eq_true rfl⟩ dJ1_indexOf_4cfef_33 (fun r9 σ9 τ9 H locs hp hw => ?_)
      obtain ⟨rfl, rfl, rfl⟩ := hp
      obtain ⟨rfl, rfl, rfl⟩ := sm_inj h
      exact gx_ri (post := gq_p r_6 σ_6 τ_6) (v := r_6) S hr hlk hw rfl dJ1_indexOf_4cfef_36 ⟨rfl, rfl, rfl⟩
    · rw [if_neg c_5] at h
      refine lv_iconst (v := (-1)) hx hb dJ1_indexOf_4cfef_27 (by decide) ?_
      obtain ⟨rfl, rfl, rfl⟩ := sm_inj h
      exact gx_ri (post := gq_p (-1) σ_1 τ_1) (v := (-1)) S hr hlk hw rfl dJ1_indexOf_4cfef_28 ⟨rfl, rfl, rfl⟩
  · rw [if_pos c_2] at h
    refine lv_iconst (v := (-1)) hx hb dJ1_indexOf_4cfef_7 (by decide) ?_
    obtain ⟨rfl, rfl, rfl⟩ := sm_inj h
    exact gx_ri (post := gq_p (-1) σ_1 τ_1) (v := (-1)) S hr hlk hw rfl dJ1_indexOf_4cfef_8 ⟨rfl, rfl, rfl⟩
set_option maxHeartbeats 4000000 in
set_option maxRecDepth 100000 in
theorem c_J1_indexOf_4cfef (l : Launch) {E : gE} (N : Nat) (bs : List Int32) (σ : gI) (τ : gJ) (x1 : Int32) (x2 : Int32) (x3 : Int32) {r : Int32} {σ1 : gI} {τ1 : gJ} (h : B_J1_indexOf_4cfef_0 N bs σ τ x1 x2 x3 = some (r, σ1, τ1)) : gx_Zi l yJ1_indexOf_4cfef cJ1_indexOf_4cfef 4 (some .int) 1 E bs σ τ (fun a9 v9 => [.ref v9, .int x1, .int x2, .int x3]) (gq_p r σ1 τ1) := by
  refine zs_bi (by decide +kernel) (fun a9 v9 => Nat.le_of_ble_eq_true rfl) ?_
  intro a9 v9 P9 e9 s m9 below meth C9 S hr hlk hK hZ hw ls hl
  have hl : lv_has ls 4 [(0, .ref v9), (1, .int x1), (2, .int x2), (3, .int x3)] := hl
  exact b_J1_indexOf_4cfef_0 l S hr hlk hK N bs hZ σ τ x1 x2 x3 h hw hl
/-! J3_checkFromToIndex_8c36e -/
def B_J3_checkFromToIndex_8c36e_0 (N : Nat) (σ : gI) (τ : gJ) (x0 : Int32) (x1 : Int32) (x2 : Int32) : Option (Int32 × gI × gJ) := if x0 < 0 then (none) else (if x1 < x0 then (none) else (if x1 ≤ x2 then (some (x0, σ, τ)) else (none)))
set_option maxHeartbeats 4000000 in
set_option maxRecDepth 100000 in
theorem b_J3_checkFromToIndex_8c36e_0 (l : Launch) (S : CallFix P9 m9 C9 cJ3_checkFromToIndex_8c36e 4 s av.toArray gx_G RJ3) (hr : meth.sig.returnType = (some .int)) (hlk : meth.locks = false) (hK : gx_K E s) (N : Nat) (σ : gI) (τ : gJ) (x0 : Int32) (x1 : Int32) (x2 : Int32) {r : Int32} {σ1 : gI} {τ1 : gJ} (h : B_J3_checkFromToIndex_8c36e_0 N σ τ x0 x1 x2 = some (r, σ1, τ1)) {H : Heap} {locs : List Loc} {ls : Array Slot} (hw : gx_W gx_tb gx_tb.length E s σ τ H locs) (hl : lv_has ls 4 [(0, .int x0), (1, .int x1), (2, .int x2), (3, w9)]) : W P9 l e9 (gx_rm 0) s m9 av.toArray below meth C9 H locs 0 0 (gq_Qi below av s E r σ1 τ1) (F0 m9 0 ls []) := by
  have hx := S.1
  have hb := S.2.1
  unfold B_J3_checkFromToIndex_8c36e_0 at h
  refine lv_iload_n hx hb dJ3_checkFromToIndex_8c36e_0 rfl (lv_at hl 0 rfl) ?_
  refine lv_if_lt (tgt := 14) hx hb dJ3_checkFromToIndex_8c36e_1 (by decide) (fun c_1 => ?_) (fun c_1 => ?_)
  · rw [if_pos c_1] at h
    cases h
  · rw [if_neg c_1] at h
    refine lv_iload_n hx hb dJ3_checkFromToIndex_8c36e_4 rfl (lv_at hl 0 rfl) ?_
    refine lv_iload_n hx hb dJ3_checkFromToIndex_8c36e_5 rfl (lv_at hl 1 rfl) ?_
    refine lv_icmp_gt (tgt := 14) hx hb dJ3_checkFromToIndex_8c36e_6 (by decide) (fun c_2 => ?_) (fun c_2 => ?_)
    · rw [if_pos c_2] at h
      cases h
    · rw [if_neg c_2] at h
      refine lv_iload_n hx hb dJ3_checkFromToIndex_8c36e_9 rfl (lv_at hl 1 rfl) ?_
      refine lv_iload_n hx hb dJ3_checkFromToIndex_8c36e_10 rfl (lv_at hl 2 rfl) ?_
      refine lv_icmp_le (tgt := 22) hx hb dJ3_checkFromToIndex_8c36e_11 (by decide) (fun c_3 => ?_) (fun c_3 => ?_)
      · rw [if_pos c_3] at h
        refine lv_iload_n hx hb dJ3_checkFromToIndex_8c36e_22 rfl (lv_at hl 0 rfl) ?_
        obtain ⟨rfl, rfl, rfl⟩ := sm_inj h
        exact gx_ri (post := gq_p x0 σ τ) (v := x0) S hr hlk hw rfl dJ3_checkFromToIndex_8c36e_23 ⟨rfl, rfl, rfl⟩
      · rw [if_neg c_3] at h
        cases h
set_option maxHeartbeats 4000000 in
set_option maxRecDepth 100000 in
theorem c_J3_checkFromToIndex_8c36e (l : Launch) {E : gE} (w9 : Value) (hw9 : w9 = .null ∨ ∃ t, w9 = .ref t) (N : Nat) (σ : gI) (τ : gJ) (x0 : Int32) (x1 : Int32) (x2 : Int32) {r : Int32} {σ1 : gI} {τ1 : gJ} (h : B_J3_checkFromToIndex_8c36e_0 N σ τ x0 x1 x2 = some (r, σ1, τ1)) : gx_Mi l yJ3_checkFromToIndex_8c36e cJ3_checkFromToIndex_8c36e 4 (some .int) 0 gx_tb E σ τ [.int x0, .int x1, .int x2, w9] (gq_p r σ1 τ1) := by
  refine gx_bi (by decide +kernel) (by rcases hw9 with rfl | ⟨t, rfl⟩ <;> exact Nat.le_of_ble_eq_true rfl) ?_
  intro P9 e9 s m9 below meth C9 S hr hlk hK hw ls hl
  have hl : lv_has ls 4 [(0, .int x0), (1, .int x1), (2, .int x2), (3, w9)] := hl
  exact b_J3_checkFromToIndex_8c36e_0 l S hr hlk hK N σ τ x0 x1 x2 h hw hl
/-! J0_checkBoundsBeginEnd_23922 -/
def B_J0_checkBoundsBeginEnd_23922_0 (N : Nat) (σ : gI) (τ : gJ) (x0 : Int32) (x1 : Int32) (x2 : Int32) : Option (Unit × gI × gJ) := bd (B_J3_checkFromToIndex_8c36e_0 N σ τ x0 x1 x2) fun r_2 σ_2 τ_2 => some ((), σ_2, τ_2)
set_option maxHeartbeats 4000000 in
set_option maxRecDepth 100000 in
theorem b_J0_checkBoundsBeginEnd_23922_0 (l : Launch) (S : CallFix P9 m9 C9 cJ0_checkBoundsBeginEnd_23922 3 s av.toArray gx_G RJ0) (hr : meth.sig.returnType = none) (hlk : meth.locks = false) (hK : gx_K E s) (N : Nat) (σ : gI) (τ : gJ) (x0 : Int32) (x1 : Int32) (x2 : Int32) {r : Unit} {σ1 : gI} {τ1 : gJ} (h : B_J0_checkBoundsBeginEnd_23922_0 N σ τ x0 x1 x2 = some (r, σ1, τ1)) {H : Heap} {locs : List Loc} {ls : Array Slot} (hw : gx_W gx_tb gx_tb.length E s σ τ H locs) (hl : lv_has ls 3 [(0, .int x0), (1, .int x1), (2, .int x2)]) : W P9 l e9 (gx_rm 1) s m9 av.toArray below meth C9 H locs 0 0 (gq_Qv below av s E σ1 τ1) (F0 m9 0 ls []) := by
  have hx := S.1
  have hb := S.2.1
  unfold B_J0_checkBoundsBeginEnd_23922_0 at h
  refine lv_iload_n hx hb dJ0_checkBoundsBeginEnd_23922_0 rfl (lv_at hl 0 rfl) ?_
  refine lv_iload_n hx hb dJ0_checkBoundsBeginEnd_23922_1 rfl (lv_at hl 1 rfl) ?_
  refine lv_iload_n hx hb dJ0_checkBoundsBeginEnd_23922_2 rfl (lv_at hl 2 rfl) ?_
  refine gx_fmt S hK hw mw_601 dJ0_checkBoundsBeginEnd_23922_3 (fun w_1 hw_1 => ?_)
  obtain ⟨r_2, σ_2, τ_2, q_2, h⟩ := bd_some h
  refine gx_cSi (As := [.int x0, .int x1, .int x2, w_1]) (rest := []) S hK gx_ok hw (c_J3_checkFromToIndex_8c36e l (E := E) w_1 hw_1 N σ τ x0 x1 x2 q_2) cw_J0_1062 ⟨Nat.le_of_ble_eq_true rfl, Nat.le_of_ble_eq_true rfl⟩ rfl hl.1 rfl (Nat.le_of_ble_eq_true rfl) ⟨Nat.le_of_ble_eq_true rfl, Nat.le_of_ble_eq_true rfl⟩ dJ0_checkBoundsBeginEnd_23922_6 (fun r9 σ9 τ9 H locs hp hw => ?_)
  obtain ⟨rfl, rfl, rfl⟩ := hp
  refine lv_pop hx hb dJ0_checkBoundsBeginEnd_23922_9 rfl ?_
  obtain ⟨-, rfl, rfl⟩ := sm_inj h
  exact gx_rv (post := gq_v σ_2 τ_2) S hr hlk hw dJ0_checkBoundsBeginEnd_23922_10 ⟨rfl, rfl⟩
set_option maxHeartbeats 4000000 in
set_option maxRecDepth 100000 in
theorem c_J0_checkBoundsBeginEnd_23922 (l : Launch) {E : gE} (N : Nat) (σ : gI) (τ : gJ) (x0 : Int32) (x1 : Int32) (x2 : Int32) {r : Unit} {σ1 : gI} {τ1 : gJ} (h : B_J0_checkBoundsBeginEnd_23922_0 N σ τ x0 x1 x2 = some (r, σ1, τ1)) : gx_Mv l yJ0_checkBoundsBeginEnd_23922 cJ0_checkBoundsBeginEnd_23922 3 none 1 gx_tb E σ τ [.int x0, .int x1, .int x2] (gq_v σ1 τ1) := by
  refine gx_bv (by decide +kernel) (Nat.le_of_ble_eq_true rfl) ?_
  intro P9 e9 s m9 below meth C9 S hr hlk hK hw ls hl
  have hl : lv_has ls 3 [(0, .int x0), (1, .int x1), (2, .int x2)] := hl
  exact b_J0_checkBoundsBeginEnd_23922_0 l S hr hlk hK N σ τ x0 x1 x2 h hw hl
/-! J0_indexOf_7cf53 -/
def B_J0_indexOf_7cf53_0 (N : Nat) (bs : List Int32) (σ : gI) (τ : gJ) (x1 : Int32) (x2 : Int32) : Option (Int32 × gI × gJ) := bd (B_J0_isLatin1_aae02_0 N bs σ τ) fun r_1 σ_1 τ_1 => if r_1 = 0 then (bd (B_J0_length_8abf5_0 N bs σ_1 τ_1) fun r_3 σ_3 τ_3 => none) else (bd (B_J0_length_8abf5_0 N bs σ_1 τ_1) fun r_4 σ_4 τ_4 => bd (B_J1_indexOf_4cfef_0 N bs σ_4 τ_4 x1 x2 r_4) fun r_5 σ_5 τ_5 => some (r_5, σ_5, τ_5))
set_option maxHeartbeats 4000000 in
set_option maxRecDepth 100000 in
theorem b_J0_indexOf_7cf53_0 (l : Launch) (S : CallFix P9 m9 C9 cJ0_indexOf_7cf53 3 s av.toArray gx_G RJ0) (hr : meth.sig.returnType = (some .int)) (hlk : meth.locks = false) (hK : gx_K E s) (N : Nat) (bs : List Int32) (hZ : zs_A bs a9 v9 E s s.heap s.heap.size) (σ : gI) (τ : gJ) (x1 : Int32) (x2 : Int32) {r : Int32} {σ1 : gI} {τ1 : gJ} (h : B_J0_indexOf_7cf53_0 N bs σ τ x1 x2 = some (r, σ1, τ1)) {H : Heap} {locs : List Loc} {ls : Array Slot} (hw : gx_W gx_tb gx_tb.length E s σ τ H locs) (hl : lv_has ls 3 [(0, .ref a9), (1, .int x1), (2, .int x2)]) : W P9 l e9 (gx_rm 2) s m9 av.toArray below meth C9 H locs 0 0 (gq_Qi below av s E r σ1 τ1) (F0 m9 0 ls []) := by
  have hx := S.1
  have hb := S.2.1
  unfold B_J0_indexOf_7cf53_0 at h
  refine lv_aload_n hx hb dJ0_indexOf_7cf53_0 rfl (lv_at hl 0 rfl) ?_
  obtain ⟨r_1, σ_1, τ_1, q_1, h⟩ := bd_some h
  refine zs_V (As := []) (rest := []) S hK hw (zs_h hZ hw) (c_J0_isLatin1_aae02 l (E := E) N bs σ τ q_1) rfl cw_J0_492 (zs_r (zs_h hZ hw) rfl) ⟨Nat.le_of_ble_eq_true rfl, Nat.le_of_ble_eq_true rfl⟩ rfl hl.1 rfl (Nat.le_of_ble_eq_true rfl) ⟨Nat.le_of_ble_eq_true rfl, Nat.le_of_ble_eq_true rfl⟩ dJ0_indexOf_7cf53_1 (fun r9 σ9 τ9 H locs hp hw => ?_)
  obtain ⟨rfl, rfl, rfl⟩ := hp
  refine lv_if_eq (tgt := 23) hx hb dJ0_indexOf_7cf53_4 (by decide) (fun c_2 => ?_) (fun c_2 => ?_)
  · rw [if_pos c_2] at h
    refine lv_aload_n hx hb dJ0_indexOf_7cf53_23 rfl (lv_at hl 0 rfl) ?_
    refine zs_val S hZ hw mw_1697 dJ0_indexOf_7cf53_24 ?_
    refine lv_iload_n hx hb dJ0_indexOf_7cf53_27 rfl (lv_at hl 1 rfl) ?_
    refine lv_iload_n hx hb dJ0_indexOf_7cf53_28 rfl (lv_at hl 2 rfl) ?_
    refine lv_aload_n hx hb dJ0_indexOf_7cf53_29 rfl (lv_at hl 0 rfl) ?_
    obtain ⟨r_3, σ_3, τ_3, q_3, h⟩ := bd_some h
    refine zs_V (As := []) (rest := [.int x2, .int x1, .ref v9]) S hK hw (zs_h hZ hw) (c_J0_length_8abf5 l (E := E) N bs σ_1 τ_1 q_3) rfl cw_J0_505 (zs_r (zs_h hZ hw) rfl) ⟨Nat.le_of_ble_eq_true rfl, Nat.le_of_ble_eq_true rfl⟩ rfl hl.1 rfl (Nat.le_of_ble_eq_true rfl) ⟨Nat.le_of_ble_eq_true rfl, Nat.le_of_ble_eq_true rfl⟩ dJ0_indexOf_7cf53_30 (fun r9 σ9 τ9 H locs hp hw => ?_)
    obtain ⟨rfl, rfl, rfl⟩ := hp
    cases h
  · rw [if_neg c_2] at h
    refine lv_aload_n hx hb dJ0_indexOf_7cf53_7 rfl (lv_at hl 0 rfl) ?_
    refine zs_val S hZ hw mw_1697 dJ0_indexOf_7cf53_8 ?_
    refine lv_iload_n hx hb dJ0_indexOf_7cf53_11 rfl (lv_at hl 1 rfl) ?_
    refine lv_iload_n hx hb dJ0_indexOf_7cf53_12 rfl (lv_at hl 2 rfl) ?_
    refine lv_aload_n hx hb dJ0_indexOf_7cf53_13 rfl (lv_at hl 0 rfl) ?_
    obtain ⟨r_4, σ_4, τ_4, q_4, h⟩ := bd_some h
    refine zs_V (As := []) (rest := [.int x2, .int x1, .ref v9]) S hK hw (zs_h hZ hw) (c_J0_length_8abf5 l (E := E) N bs σ_1 τ_1 q_4) rfl cw_J0_505 (zs_r (zs_h hZ hw) rfl) ⟨Nat.le_of_ble_eq_true rfl, Nat.le_of_ble_eq_true rfl⟩ rfl hl.1 rfl (Nat.le_of_ble_eq_true rfl) ⟨Nat.le_of_ble_eq_true rfl, Nat.le_of_ble_eq_true rfl⟩ dJ0_indexOf_7cf53_14 (fun r9 σ9 τ9 H locs hp hw => ?_)
    obtain ⟨rfl, rfl, rfl⟩ := hp
    obtain ⟨r_5, σ_5, τ_5, q_5, h⟩ := bd_some h
    refine zs_S (As := [.ref v9, .int x1, .int x2, .int r_4]) (rest := []) S hK hw (zs_h hZ hw) (c_J1_indexOf_4cfef l (E := E) N bs σ_4 τ_4 x1 x2 r_4 q_5) rfl cw_J0_637 ⟨Nat.le_of_ble_eq_true rfl, Nat.le_of_ble_eq_true rfl⟩ rfl hl.1 rfl (Nat.le_of_ble_eq_true rfl) ⟨Nat.le_of_ble_eq_true rfl, Nat.le_of_ble_eq_true rfl⟩ dJ0_indexOf_7cf53_17 (fun r9 σ9 τ9 H locs hp hw => ?_)
    obtain ⟨rfl, rfl, rfl⟩ := hp
    refine lv_goto (tgt := 36) hx hb dJ0_indexOf_7cf53_20 (by decide) ?_
    obtain ⟨rfl, rfl, rfl⟩ := sm_inj h
    exact gx_ri (post := gq_p r_5 σ_5 τ_5) (v := r_5) S hr hlk hw rfl dJ0_indexOf_7cf53_36 ⟨rfl, rfl, rfl⟩
set_option maxHeartbeats 4000000 in
set_option maxRecDepth 100000 in
theorem c_J0_indexOf_7cf53 (l : Launch) {E : gE} (N : Nat) (bs : List Int32) (σ : gI) (τ : gJ) (x1 : Int32) (x2 : Int32) {r : Int32} {σ1 : gI} {τ1 : gJ} (h : B_J0_indexOf_7cf53_0 N bs σ τ x1 x2 = some (r, σ1, τ1)) : gx_Zi l yJ0_indexOf_7cf53 cJ0_indexOf_7cf53 3 (some .int) 2 E bs σ τ (fun a9 v9 => [.ref a9, .int x1, .int x2]) (gq_p r σ1 τ1) := by
  refine zs_bi (by decide +kernel) (fun a9 v9 => Nat.le_of_ble_eq_true rfl) ?_
  intro a9 v9 P9 e9 s m9 below meth C9 S hr hlk hK hZ hw ls hl
  have hl : lv_has ls 3 [(0, .ref a9), (1, .int x1), (2, .int x2)] := hl
  exact b_J0_indexOf_7cf53_0 l S hr hlk hK N bs hZ σ τ x1 x2 h hw hl
/-! J0_indexOf_0f7a4 -/
def B_J0_indexOf_0f7a4_0 (N : Nat) (bs : List Int32) (σ : gI) (τ : gJ) (x1 : Int32) : Option (Int32 × gI × gJ) := bd (B_J0_indexOf_7cf53_0 N bs σ τ x1 0) fun r_1 σ_1 τ_1 => some (r_1, σ_1, τ_1)
set_option maxHeartbeats 4000000 in
set_option maxRecDepth 100000 in
theorem b_J0_indexOf_0f7a4_0 (l : Launch) (S : CallFix P9 m9 C9 cJ0_indexOf_0f7a4 2 s av.toArray gx_G RJ0) (hr : meth.sig.returnType = (some .int)) (hlk : meth.locks = false) (hK : gx_K E s) (N : Nat) (bs : List Int32) (hZ : zs_A bs a9 v9 E s s.heap s.heap.size) (σ : gI) (τ : gJ) (x1 : Int32) {r : Int32} {σ1 : gI} {τ1 : gJ} (h : B_J0_indexOf_0f7a4_0 N bs σ τ x1 = some (r, σ1, τ1)) {H : Heap} {locs : List Loc} {ls : Array Slot} (hw : gx_W gx_tb gx_tb.length E s σ τ H locs) (hl : lv_has ls 2 [(0, .ref a9), (1, .int x1)]) : W P9 l e9 (gx_rm 3) s m9 av.toArray below meth C9 H locs 0 0 (gq_Qi below av s E r σ1 τ1) (F0 m9 0 ls []) := by
  have hx := S.1
  have hb := S.2.1
  unfold B_J0_indexOf_0f7a4_0 at h
  refine lv_aload_n hx hb dJ0_indexOf_0f7a4_0 rfl (lv_at hl 0 rfl) ?_
  refine lv_iload_n hx hb dJ0_indexOf_0f7a4_1 rfl (lv_at hl 1 rfl) ?_
  refine lv_iconst (v := 0) hx hb dJ0_indexOf_0f7a4_2 (by decide) ?_
  obtain ⟨r_1, σ_1, τ_1, q_1, h⟩ := bd_some h
  refine zs_V (As := [.int x1, .int 0]) (rest := []) S hK hw (zs_h hZ hw) (c_J0_indexOf_7cf53 l (E := E) N bs σ τ x1 0 q_1) rfl cw_J0_633 (zs_r (zs_h hZ hw) rfl) ⟨Nat.le_of_ble_eq_true rfl, Nat.le_of_ble_eq_true rfl⟩ rfl hl.1 rfl (Nat.le_of_ble_eq_true rfl) ⟨Nat.le_of_ble_eq_true rfl, Nat.le_of_ble_eq_true rfl⟩ dJ0_indexOf_0f7a4_3 (fun r9 σ9 τ9 H locs hp hw => ?_)
  obtain ⟨rfl, rfl, rfl⟩ := hp
  obtain ⟨rfl, rfl, rfl⟩ := sm_inj h
  exact gx_ri (post := gq_p r_1 σ_1 τ_1) (v := r_1) S hr hlk hw rfl dJ0_indexOf_0f7a4_6 ⟨rfl, rfl, rfl⟩
set_option maxHeartbeats 4000000 in
set_option maxRecDepth 100000 in
theorem c_J0_indexOf_0f7a4 (l : Launch) {E : gE} (N : Nat) (bs : List Int32) (σ : gI) (τ : gJ) (x1 : Int32) {r : Int32} {σ1 : gI} {τ1 : gJ} (h : B_J0_indexOf_0f7a4_0 N bs σ τ x1 = some (r, σ1, τ1)) : gx_Zi l yJ0_indexOf_0f7a4 cJ0_indexOf_0f7a4 2 (some .int) 3 E bs σ τ (fun a9 v9 => [.ref a9, .int x1]) (gq_p r σ1 τ1) := by
  refine zs_bi (by decide +kernel) (fun a9 v9 => Nat.le_of_ble_eq_true rfl) ?_
  intro a9 v9 P9 e9 s m9 below meth C9 S hr hlk hK hZ hw ls hl
  have hl : lv_has ls 2 [(0, .ref a9), (1, .int x1)] := hl
  exact b_J0_indexOf_0f7a4_0 l S hr hlk hK N bs hZ σ τ x1 h hw hl
/-! X7_oneOf -/
def B_X7_oneOf_0 (N : Nat) (bs : List Int32) (σ : gI) (τ : gJ) (x2 : Int32) : Option (Int32 × gI × gJ) := bd (B_X7_look_0 N σ τ x2) fun r_1 σ_1 τ_1 => if 0 ≤ r_1 then (bd (B_J0_indexOf_0f7a4_0 N bs σ_1 τ_1 ((r_1.toUInt32 % 65536).toInt32)) fun r_3 σ_3 τ_3 => some (r_3, σ_3, τ_3)) else (some ((-1), σ_1, τ_1))
set_option maxHeartbeats 4000000 in
set_option maxRecDepth 100000 in
theorem b_X7_oneOf_0 (l : Launch) (S : CallFix P9 m9 C9 cX7_oneOf 4 s av.toArray gx_G RX7) (hr : meth.sig.returnType = (some .int)) (hlk : meth.locks = false) (hK : gx_K E s) (N : Nat) (bs : List Int32) (hZ : zs_A bs a9 v9 E s s.heap s.heap.size) (σ : gI) (τ : gJ) (x2 : Int32) {r : Int32} {σ1 : gI} {τ1 : gJ} (h : B_X7_oneOf_0 N bs σ τ x2 = some (r, σ1, τ1)) {H : Heap} {locs : List Loc} {ls : Array Slot} (hw : gx_W gx_tb gx_tb.length E s σ τ H locs) (hl : lv_has ls 4 [(0, .ref (E.2.2 + 1)), (1, .ref a9), (2, .int x2)]) : W P9 l e9 (gx_rm 4) s m9 av.toArray below meth C9 H locs 0 0 (gq_Qi below av s E r σ1 τ1) (F0 m9 0 ls []) := by
  have hx := S.1
  have hb := S.2.1
  unfold B_X7_oneOf_0 at h
  refine lv_aload_n hx hb dX7_oneOf_0 rfl (lv_at hl 0 rfl) ?_
  refine lv_iload_n hx hb dX7_oneOf_1 rfl (lv_at hl 2 rfl) ?_
  obtain ⟨r_1, σ_1, τ_1, q_1, h⟩ := bd_some h
  refine gx_cVi (As := [.int x2]) (rest := []) S hK gx_ok hw (c_X7_look l (E := E) N σ τ x2 q_1) cw_X7_28 t_1 cl_8 ⟨Nat.le_of_ble_eq_true rfl, Nat.le_of_ble_eq_true rfl⟩ rfl hl.1 rfl (Nat.le_of_ble_eq_true rfl) ⟨Nat.le_of_ble_eq_true rfl, Nat.le_of_ble_eq_true rfl⟩ dX7_oneOf_2 (fun r9 σ9 τ9 H locs hp hw => ?_)
  obtain ⟨rfl, rfl, rfl⟩ := hp
  refine lv_istore_n (lv' := [(3, .int r_1), (0, .ref (E.2.2 + 1)), (1, .ref a9), (2, .int x2)]) hx hb dX7_oneOf_5 rfl hl (by decide) rfl (fun ls hl => ?_)
  refine lv_iload_n hx hb dX7_oneOf_6 rfl (lv_at hl 0 rfl) ?_
  refine lv_if_ge (tgt := 14) hx hb dX7_oneOf_7 (by decide) (fun c_2 => ?_) (fun c_2 => ?_)
  · rw [if_pos c_2] at h
    refine lv_aload_n hx hb dX7_oneOf_14 rfl (lv_at hl 2 rfl) ?_
    refine lv_iload_n hx hb dX7_oneOf_15 rfl (lv_at hl 0 rfl) ?_
    refine lv_i2c (v := (r_1.toUInt32 % 65536).toInt32) hx hb dX7_oneOf_16 rfl ?_
    obtain ⟨r_3, σ_3, τ_3, q_3, h⟩ := bd_some h
    refine zs_V (As := [.int ((r_1.toUInt32 % 65536).toInt32)]) (rest := []) S hK hw (zs_h hZ hw) (c_J0_indexOf_0f7a4 l (E := E) N bs σ_1 τ_1 ((r_1.toUInt32 % 65536).toInt32) q_3) rfl cw_X7_32 (zs_r (zs_h hZ hw) rfl) ⟨Nat.le_of_ble_eq_true rfl, Nat.le_of_ble_eq_true rfl⟩ rfl hl.1 rfl (Nat.le_of_ble_eq_true rfl) ⟨Nat.le_of_ble_eq_true rfl, Nat.le_of_ble_eq_true rfl⟩ dX7_oneOf_17 (fun r9 σ9 τ9 H locs hp hw => ?_)
    obtain ⟨rfl, rfl, rfl⟩ := hp
    obtain ⟨rfl, rfl, rfl⟩ := sm_inj h
    exact gx_ri (post := gq_p r_3 σ_3 τ_3) (v := r_3) S hr hlk hw rfl dX7_oneOf_20 ⟨rfl, rfl, rfl⟩
  · rw [if_neg c_2] at h
    refine lv_iconst (v := (-1)) hx hb dX7_oneOf_10 (by decide) ?_
    refine lv_goto (tgt := 20) hx hb dX7_oneOf_11 (by decide) ?_
    obtain ⟨rfl, rfl, rfl⟩ := sm_inj h
    exact gx_ri (post := gq_p (-1) σ_1 τ_1) (v := (-1)) S hr hlk hw rfl dX7_oneOf_20 ⟨rfl, rfl, rfl⟩
set_option maxHeartbeats 4000000 in
set_option maxRecDepth 100000 in
theorem c_X7_oneOf (l : Launch) {E : gE} (N : Nat) (bs : List Int32) (σ : gI) (τ : gJ) (x2 : Int32) {r : Int32} {σ1 : gI} {τ1 : gJ} (h : B_X7_oneOf_0 N bs σ τ x2 = some (r, σ1, τ1)) : gx_Zi l yX7_oneOf cX7_oneOf 4 (some .int) 4 E bs σ τ (fun a9 v9 => [.ref (E.2.2 + 1), .ref a9, .int x2]) (gq_p r σ1 τ1) := by
  refine zs_bi (by decide +kernel) (fun a9 v9 => Nat.le_of_ble_eq_true rfl) ?_
  intro a9 v9 P9 e9 s m9 below meth C9 S hr hlk hK hZ hw ls hl
  have hl : lv_has ls 4 [(0, .ref (E.2.2 + 1)), (1, .ref a9), (2, .int x2)] := hl
  exact b_X7_oneOf_0 l S hr hlk hK N bs hZ σ τ x2 h hw hl
/-! X7_letter -/
def B_X7_letter_0 (N : Nat) (σ : gI) (τ : gJ) (x1 : Int32) : Option (Int32 × gI × gJ) := bd (B_X7_look_0 N σ τ x1) fun r_1 σ_1 τ_1 => if r_1 < 97 then (some ((-1), σ_1, τ_1)) else (if 109 ≤ r_1 then (some ((-1), σ_1, τ_1)) else (some (r_1 - 97, σ_1, τ_1)))
set_option maxHeartbeats 4000000 in
set_option maxRecDepth 100000 in
theorem b_X7_letter_0 (l : Launch) (S : CallFix P9 m9 C9 cX7_letter 3 s av.toArray gx_G RX7) (hr : meth.sig.returnType = (some .int)) (hlk : meth.locks = false) (hK : gx_K E s) (N : Nat) (σ : gI) (τ : gJ) (x1 : Int32) {r : Int32} {σ1 : gI} {τ1 : gJ} (h : B_X7_letter_0 N σ τ x1 = some (r, σ1, τ1)) {H : Heap} {locs : List Loc} {ls : Array Slot} (hw : gx_W gx_tb gx_tb.length E s σ τ H locs) (hl : lv_has ls 3 [(0, .ref (E.2.2 + 1)), (1, .int x1)]) : W P9 l e9 (gx_rm 1) s m9 av.toArray below meth C9 H locs 0 0 (gq_Qi below av s E r σ1 τ1) (F0 m9 0 ls []) := by
  have hx := S.1
  have hb := S.2.1
  unfold B_X7_letter_0 at h
  refine lv_aload_n hx hb dX7_letter_0 rfl (lv_at hl 0 rfl) ?_
  refine lv_iload_n hx hb dX7_letter_1 rfl (lv_at hl 1 rfl) ?_
  obtain ⟨r_1, σ_1, τ_1, q_1, h⟩ := bd_some h
  refine gx_cVi (As := [.int x1]) (rest := []) S hK gx_ok hw (c_X7_look l (E := E) N σ τ x1 q_1) cw_X7_28 t_1 cl_8 ⟨Nat.le_of_ble_eq_true rfl, Nat.le_of_ble_eq_true rfl⟩ rfl hl.1 rfl (Nat.le_of_ble_eq_true rfl) ⟨Nat.le_of_ble_eq_true rfl, Nat.le_of_ble_eq_true rfl⟩ dX7_letter_2 (fun r9 σ9 τ9 H locs hp hw => ?_)
  obtain ⟨rfl, rfl, rfl⟩ := hp
  refine lv_istore_n (lv' := [(2, .int r_1), (0, .ref (E.2.2 + 1)), (1, .int x1)]) hx hb dX7_letter_5 rfl hl (by decide) rfl (fun ls hl => ?_)
  refine lv_iload_n hx hb dX7_letter_6 rfl (lv_at hl 0 rfl) ?_
  refine lv_bipush (v := 97) hx hb dX7_letter_7 (by decide) ?_
  refine lv_icmp_lt (tgt := 25) hx hb dX7_letter_9 (by decide) (fun c_2 => ?_) (fun c_2 => ?_)
  · rw [if_pos c_2] at h
    refine lv_iconst (v := (-1)) hx hb dX7_letter_25 (by decide) ?_
    obtain ⟨rfl, rfl, rfl⟩ := sm_inj h
    exact gx_ri (post := gq_p (-1) σ_1 τ_1) (v := (-1)) S hr hlk hw rfl dX7_letter_26 ⟨rfl, rfl, rfl⟩
  · rw [if_neg c_2] at h
    refine lv_iload_n hx hb dX7_letter_12 rfl (lv_at hl 0 rfl) ?_
    refine lv_bipush (v := 109) hx hb dX7_letter_13 (by decide) ?_
    refine lv_icmp_ge (tgt := 25) hx hb dX7_letter_15 (by decide) (fun c_3 => ?_) (fun c_3 => ?_)
    · rw [if_pos c_3] at h
      refine lv_iconst (v := (-1)) hx hb dX7_letter_25 (by decide) ?_
      obtain ⟨rfl, rfl, rfl⟩ := sm_inj h
      exact gx_ri (post := gq_p (-1) σ_1 τ_1) (v := (-1)) S hr hlk hw rfl dX7_letter_26 ⟨rfl, rfl, rfl⟩
    · rw [if_neg c_3] at h
      refine lv_iload_n hx hb dX7_letter_18 rfl (lv_at hl 0 rfl) ?_
      refine lv_bipush (v := 97) hx hb dX7_letter_19 (by decide) ?_
      refine lv_isub hx hb dX7_letter_21 ?_
      refine lv_goto (tgt := 26) hx hb dX7_letter_22 (by decide) ?_
      obtain ⟨rfl, rfl, rfl⟩ := sm_inj h
      exact gx_ri (post := gq_p (r_1 - 97) σ_1 τ_1) (v := r_1 - 97) S hr hlk hw rfl dX7_letter_26 ⟨rfl, rfl, rfl⟩
set_option maxHeartbeats 4000000 in
set_option maxRecDepth 100000 in
theorem c_X7_letter (l : Launch) {E : gE} (N : Nat) (σ : gI) (τ : gJ) (x1 : Int32) {r : Int32} {σ1 : gI} {τ1 : gJ} (h : B_X7_letter_0 N σ τ x1 = some (r, σ1, τ1)) : gx_Mi l yX7_letter cX7_letter 3 (some .int) 1 gx_tb E σ τ [.ref (E.2.2 + 1), .int x1] (gq_p r σ1 τ1) := by
  refine gx_bi (by decide +kernel) (Nat.le_of_ble_eq_true rfl) ?_
  intro P9 e9 s m9 below meth C9 S hr hlk hK hw ls hl
  have hl : lv_has ls 3 [(0, .ref (E.2.2 + 1)), (1, .int x1)] := hl
  exact b_X7_letter_0 l S hr hlk hK N σ τ x1 h hw hl
/-! X2_behindNumber -/
def B_X2_behindNumber_0 (N : Nat) (σ : gI) (τ : gJ) (x1 : Int32) : Option (Int32 × gI × gJ) := bd (B_X7_digit_0 N σ τ x1) fun r_1 σ_1 τ_1 => if 0 ≤ r_1 then (bd (B_X7_digit_0 N σ_1 τ_1 (x1 + 1)) fun r_3 σ_3 τ_3 => if 0 ≤ r_3 then (some (x1 + 2, σ_3, τ_3)) else (some (x1 + 1, σ_3, τ_3))) else (some ((-1) - x1, σ_1, τ_1))
set_option maxHeartbeats 4000000 in
set_option maxRecDepth 100000 in
theorem b_X2_behindNumber_0 (l : Launch) (S : CallFix P9 m9 C9 cX2_behindNumber 2 s av.toArray gx_G RX2) (hr : meth.sig.returnType = (some .int)) (hlk : meth.locks = false) (hK : gx_K E s) (N : Nat) (σ : gI) (τ : gJ) (x1 : Int32) {r : Int32} {σ1 : gI} {τ1 : gJ} (h : B_X2_behindNumber_0 N σ τ x1 = some (r, σ1, τ1)) {H : Heap} {locs : List Loc} {ls : Array Slot} (hw : gx_W gx_tb gx_tb.length E s σ τ H locs) (hl : lv_has ls 2 [(0, .ref (E.2.2 + 1)), (1, .int x1)]) : W P9 l e9 (gx_rm 2) s m9 av.toArray below meth C9 H locs 0 0 (gq_Qi below av s E r σ1 τ1) (F0 m9 0 ls []) := by
  have hx := S.1
  have hb := S.2.1
  unfold B_X2_behindNumber_0 at h
  refine lv_aload_n hx hb dX2_behindNumber_0 rfl (lv_at hl 0 rfl) ?_
  refine lv_iload_n hx hb dX2_behindNumber_1 rfl (lv_at hl 1 rfl) ?_
  obtain ⟨r_1, σ_1, τ_1, q_1, h⟩ := bd_some h
  refine gx_cVi (As := [.int x1]) (rest := []) S hK gx_ok hw (c_X7_digit l (E := E) N σ τ x1 q_1) cw_X2_80 t_1 cl_8 ⟨Nat.le_of_ble_eq_true rfl, Nat.le_of_ble_eq_true rfl⟩ rfl hl.1 rfl (Nat.le_of_ble_eq_true rfl) ⟨Nat.le_of_ble_eq_true rfl, Nat.le_of_ble_eq_true rfl⟩ dX2_behindNumber_2 (fun r9 σ9 τ9 H locs hp hw => ?_)
  obtain ⟨rfl, rfl, rfl⟩ := hp
  refine lv_if_ge (tgt := 12) hx hb dX2_behindNumber_5 (by decide) (fun c_2 => ?_) (fun c_2 => ?_)
  · rw [if_pos c_2] at h
    refine lv_aload_n hx hb dX2_behindNumber_12 rfl (lv_at hl 0 rfl) ?_
    refine lv_iload_n hx hb dX2_behindNumber_13 rfl (lv_at hl 1 rfl) ?_
    refine lv_iconst (v := 1) hx hb dX2_behindNumber_14 (by decide) ?_
    refine lv_iadd hx hb dX2_behindNumber_15 ?_
    obtain ⟨r_3, σ_3, τ_3, q_3, h⟩ := bd_some h
    refine gx_cVi (As := [.int (x1 + 1)]) (rest := []) S hK gx_ok hw (c_X7_digit l (E := E) N σ_1 τ_1 (x1 + 1) q_3) cw_X2_80 t_1 cl_8 ⟨Nat.le_of_ble_eq_true rfl, Nat.le_of_ble_eq_true rfl⟩ rfl hl.1 rfl (Nat.le_of_ble_eq_true rfl) ⟨Nat.le_of_ble_eq_true rfl, Nat.le_of_ble_eq_true rfl⟩ dX2_behindNumber_16 (fun r9 σ9 τ9 H locs hp hw => ?_)
    obtain ⟨rfl, rfl, rfl⟩ := hp
    refine lv_if_ge (tgt := 28) hx hb dX2_behindNumber_19 (by decide) (fun c_4 => ?_) (fun c_4 => ?_)
    · rw [if_pos c_4] at h
      refine lv_iload_n hx hb dX2_behindNumber_28 rfl (lv_at hl 1 rfl) ?_
      refine lv_iconst (v := 2) hx hb dX2_behindNumber_29 (by decide) ?_
      refine lv_iadd hx hb dX2_behindNumber_30 ?_
      obtain ⟨rfl, rfl, rfl⟩ := sm_inj h
      exact gx_ri (post := gq_p (x1 + 2) σ_3 τ_3) (v := x1 + 2) S hr hlk hw rfl dX2_behindNumber_31 ⟨rfl, rfl, rfl⟩
    · rw [if_neg c_4] at h
      refine lv_iload_n hx hb dX2_behindNumber_22 rfl (lv_at hl 1 rfl) ?_
      refine lv_iconst (v := 1) hx hb dX2_behindNumber_23 (by decide) ?_
      refine lv_iadd hx hb dX2_behindNumber_24 ?_
      refine lv_goto (tgt := 31) hx hb dX2_behindNumber_25 (by decide) ?_
      obtain ⟨rfl, rfl, rfl⟩ := sm_inj h
      exact gx_ri (post := gq_p (x1 + 1) σ_3 τ_3) (v := x1 + 1) S hr hlk hw rfl dX2_behindNumber_31 ⟨rfl, rfl, rfl⟩
  · rw [if_neg c_2] at h
    refine lv_iconst (v := (-1)) hx hb dX2_behindNumber_8 (by decide) ?_
    refine lv_iload_n hx hb dX2_behindNumber_9 rfl (lv_at hl 1 rfl) ?_
    refine lv_isub hx hb dX2_behindNumber_10 ?_
    obtain ⟨rfl, rfl, rfl⟩ := sm_inj h
    exact gx_ri (post := gq_p ((-1) - x1) σ_1 τ_1) (v := (-1) - x1) S hr hlk hw rfl dX2_behindNumber_11 ⟨rfl, rfl, rfl⟩
set_option maxHeartbeats 4000000 in
set_option maxRecDepth 100000 in
theorem c_X2_behindNumber (l : Launch) {E : gE} (N : Nat) (σ : gI) (τ : gJ) (x1 : Int32) {r : Int32} {σ1 : gI} {τ1 : gJ} (h : B_X2_behindNumber_0 N σ τ x1 = some (r, σ1, τ1)) : gx_Mi l yX2_behindNumber cX2_behindNumber 2 (some .int) 2 gx_tb E σ τ [.ref (E.2.2 + 1), .int x1] (gq_p r σ1 τ1) := by
  refine gx_bi (by decide +kernel) (Nat.le_of_ble_eq_true rfl) ?_
  intro P9 e9 s m9 below meth C9 S hr hlk hK hw ls hl
  have hl : lv_has ls 2 [(0, .ref (E.2.2 + 1)), (1, .int x1)] := hl
  exact b_X2_behindNumber_0 l S hr hlk hK N σ τ x1 h hw hl
/-! X2_numberAt -/
def B_X2_numberAt_0 (N : Nat) (σ : gI) (τ : gJ) (x1 : Int32) (x2 : Int32) : Option (Int32 × gI × gJ) := bd (B_X7_digit_0 N σ τ x1) fun r_1 σ_1 τ_1 => if x2 = x1 + 1 then (some (r_1, σ_1, τ_1)) else (bd (B_X7_digit_0 N σ_1 τ_1 (x1 + 1)) fun r_3 σ_3 τ_3 => some ((10 * r_1) + r_3, σ_3, τ_3))
set_option maxHeartbeats 4000000 in
set_option maxRecDepth 100000 in
theorem b_X2_numberAt_0 (l : Launch) (S : CallFix P9 m9 C9 cX2_numberAt 4 s av.toArray gx_G RX2) (hr : meth.sig.returnType = (some .int)) (hlk : meth.locks = false) (hK : gx_K E s) (N : Nat) (σ : gI) (τ : gJ) (x1 : Int32) (x2 : Int32) {r : Int32} {σ1 : gI} {τ1 : gJ} (h : B_X2_numberAt_0 N σ τ x1 x2 = some (r, σ1, τ1)) {H : Heap} {locs : List Loc} {ls : Array Slot} (hw : gx_W gx_tb gx_tb.length E s σ τ H locs) (hl : lv_has ls 4 [(0, .ref (E.2.2 + 1)), (1, .int x1), (2, .int x2)]) : W P9 l e9 (gx_rm 2) s m9 av.toArray below meth C9 H locs 0 0 (gq_Qi below av s E r σ1 τ1) (F0 m9 0 ls []) := by
  have hx := S.1
  have hb := S.2.1
  unfold B_X2_numberAt_0 at h
  refine lv_aload_n hx hb dX2_numberAt_0 rfl (lv_at hl 0 rfl) ?_
  refine lv_iload_n hx hb dX2_numberAt_1 rfl (lv_at hl 1 rfl) ?_
  obtain ⟨r_1, σ_1, τ_1, q_1, h⟩ := bd_some h
  refine gx_cVi (As := [.int x1]) (rest := []) S hK gx_ok hw (c_X7_digit l (E := E) N σ τ x1 q_1) cw_X2_80 t_1 cl_8 ⟨Nat.le_of_ble_eq_true rfl, Nat.le_of_ble_eq_true rfl⟩ rfl hl.1 rfl (Nat.le_of_ble_eq_true rfl) ⟨Nat.le_of_ble_eq_true rfl, Nat.le_of_ble_eq_true rfl⟩ dX2_numberAt_2 (fun r9 σ9 τ9 H locs hp hw => ?_)
  obtain ⟨rfl, rfl, rfl⟩ := hp
  refine lv_istore_n (lv' := [(3, .int r_1), (0, .ref (E.2.2 + 1)), (1, .int x1), (2, .int x2)]) hx hb dX2_numberAt_5 rfl hl (by decide) rfl (fun ls hl => ?_)
  refine lv_iload_n hx hb dX2_numberAt_6 rfl (lv_at hl 3 rfl) ?_
  refine lv_iload_n hx hb dX2_numberAt_7 rfl (lv_at hl 2 rfl) ?_
  refine lv_iconst (v := 1) hx hb dX2_numberAt_8 (by decide) ?_
  refine lv_iadd hx hb dX2_numberAt_9 ?_
  refine lv_icmp_ne (tgt := 17) hx hb dX2_numberAt_10 (by decide) (fun c_2 => ?_) (fun c_2 => ?_)
  · rw [if_neg c_2] at h
    refine lv_bipush (v := 10) hx hb dX2_numberAt_17 (by decide) ?_
    refine lv_iload_n hx hb dX2_numberAt_19 rfl (lv_at hl 0 rfl) ?_
    refine lv_imul hx hb dX2_numberAt_20 ?_
    refine lv_aload_n hx hb dX2_numberAt_21 rfl (lv_at hl 1 rfl) ?_
    refine lv_iload_n hx hb dX2_numberAt_22 rfl (lv_at hl 2 rfl) ?_
    refine lv_iconst (v := 1) hx hb dX2_numberAt_23 (by decide) ?_
    refine lv_iadd hx hb dX2_numberAt_24 ?_
    obtain ⟨r_3, σ_3, τ_3, q_3, h⟩ := bd_some h
    refine gx_cVi (As := [.int (x1 + 1)]) (rest := [.int (10 * r_1)]) S hK gx_ok hw (c_X7_digit l (E := E) N σ_1 τ_1 (x1 + 1) q_3) cw_X2_80 t_1 cl_8 ⟨Nat.le_of_ble_eq_true rfl, Nat.le_of_ble_eq_true rfl⟩ rfl hl.1 rfl (Nat.le_of_ble_eq_true rfl) ⟨Nat.le_of_ble_eq_true rfl, Nat.le_of_ble_eq_true rfl⟩ dX2_numberAt_25 (fun r9 σ9 τ9 H locs hp hw => ?_)
    obtain ⟨rfl, rfl, rfl⟩ := hp
    refine lv_iadd hx hb dX2_numberAt_28 ?_
    obtain ⟨rfl, rfl, rfl⟩ := sm_inj h
    exact gx_ri (post := gq_p ((10 * r_1) + r_3) σ_3 τ_3) (v := (10 * r_1) + r_3) S hr hlk hw rfl dX2_numberAt_29 ⟨rfl, rfl, rfl⟩
  · rw [if_pos c_2] at h
    refine lv_iload_n hx hb dX2_numberAt_13 rfl (lv_at hl 0 rfl) ?_
    refine lv_goto (tgt := 29) hx hb dX2_numberAt_14 (by decide) ?_
    obtain ⟨rfl, rfl, rfl⟩ := sm_inj h
    exact gx_ri (post := gq_p r_1 σ_1 τ_1) (v := r_1) S hr hlk hw rfl dX2_numberAt_29 ⟨rfl, rfl, rfl⟩
set_option maxHeartbeats 4000000 in
set_option maxRecDepth 100000 in
theorem c_X2_numberAt (l : Launch) {E : gE} (N : Nat) (σ : gI) (τ : gJ) (x1 : Int32) (x2 : Int32) {r : Int32} {σ1 : gI} {τ1 : gJ} (h : B_X2_numberAt_0 N σ τ x1 x2 = some (r, σ1, τ1)) : gx_Mi l yX2_numberAt cX2_numberAt 4 (some .int) 2 gx_tb E σ τ [.ref (E.2.2 + 1), .int x1, .int x2] (gq_p r σ1 τ1) := by
  refine gx_bi (by decide +kernel) (Nat.le_of_ble_eq_true rfl) ?_
  intro P9 e9 s m9 below meth C9 S hr hlk hK hw ls hl
  have hl : lv_has ls 4 [(0, .ref (E.2.2 + 1)), (1, .int x1), (2, .int x2)] := hl
  exact b_X2_numberAt_0 l S hr hlk hK N σ τ x1 x2 h hw hl
/-! X7_hasSign -/
def B_X7_hasSign_0 (N : Nat) (σ : gI) (τ : gJ) (x1 : Int32) (x2 : Int32) : Option (Int32 × gI × gJ) := bd (B_X7_look_0 N σ τ x1) fun r_1 σ_1 τ_1 => if r_1 = x2 then (some (1, σ_1, τ_1)) else (some (0, σ_1, τ_1))
set_option maxHeartbeats 4000000 in
set_option maxRecDepth 100000 in
theorem b_X7_hasSign_0 (l : Launch) (S : CallFix P9 m9 C9 cX7_hasSign 3 s av.toArray gx_G RX7) (hr : meth.sig.returnType = (some .boolean)) (hlk : meth.locks = false) (hK : gx_K E s) (N : Nat) (σ : gI) (τ : gJ) (x1 : Int32) (x2 : Int32) {r : Int32} {σ1 : gI} {τ1 : gJ} (h : B_X7_hasSign_0 N σ τ x1 x2 = some (r, σ1, τ1)) {H : Heap} {locs : List Loc} {ls : Array Slot} (hw : gx_W gx_tb gx_tb.length E s σ τ H locs) (hl : lv_has ls 3 [(0, .ref (E.2.2 + 1)), (1, .int x1), (2, .int x2)]) : W P9 l e9 (gx_rm 1) s m9 av.toArray below meth C9 H locs 0 0 (gq_Qi below av s E r σ1 τ1) (F0 m9 0 ls []) := by
  have hx := S.1
  have hb := S.2.1
  unfold B_X7_hasSign_0 at h
  refine lv_aload_n hx hb dX7_hasSign_0 rfl (lv_at hl 0 rfl) ?_
  refine lv_iload_n hx hb dX7_hasSign_1 rfl (lv_at hl 1 rfl) ?_
  obtain ⟨r_1, σ_1, τ_1, q_1, h⟩ := bd_some h
  refine gx_cVi (As := [.int x1]) (rest := []) S hK gx_ok hw (c_X7_look l (E := E) N σ τ x1 q_1) cw_X7_28 t_1 cl_8 ⟨Nat.le_of_ble_eq_true rfl, Nat.le_of_ble_eq_true rfl⟩ rfl hl.1 rfl (Nat.le_of_ble_eq_true rfl) ⟨Nat.le_of_ble_eq_true rfl, Nat.le_of_ble_eq_true rfl⟩ dX7_hasSign_2 (fun r9 σ9 τ9 H locs hp hw => ?_)
  obtain ⟨rfl, rfl, rfl⟩ := hp
  refine lv_iload_n hx hb dX7_hasSign_5 rfl (lv_at hl 2 rfl) ?_
  refine lv_icmp_ne (tgt := 13) hx hb dX7_hasSign_6 (by decide) (fun c_2 => ?_) (fun c_2 => ?_)
  · rw [if_neg c_2] at h
    refine lv_iconst (v := 0) hx hb dX7_hasSign_13 (by decide) ?_
    obtain ⟨rfl, rfl, rfl⟩ := sm_inj h
    exact gx_ri (post := gq_p 0 σ_1 τ_1) (v := 0) S hr hlk hw rfl dX7_hasSign_14 ⟨rfl, rfl, rfl⟩
  · rw [if_pos c_2] at h
    refine lv_iconst (v := 1) hx hb dX7_hasSign_9 (by decide) ?_
    refine lv_goto (tgt := 14) hx hb dX7_hasSign_10 (by decide) ?_
    obtain ⟨rfl, rfl, rfl⟩ := sm_inj h
    exact gx_ri (post := gq_p 1 σ_1 τ_1) (v := 1) S hr hlk hw rfl dX7_hasSign_14 ⟨rfl, rfl, rfl⟩
set_option maxHeartbeats 4000000 in
set_option maxRecDepth 100000 in
theorem c_X7_hasSign (l : Launch) {E : gE} (N : Nat) (σ : gI) (τ : gJ) (x1 : Int32) (x2 : Int32) {r : Int32} {σ1 : gI} {τ1 : gJ} (h : B_X7_hasSign_0 N σ τ x1 x2 = some (r, σ1, τ1)) : gx_Mi l yX7_hasSign cX7_hasSign 3 (some .boolean) 1 gx_tb E σ τ [.ref (E.2.2 + 1), .int x1, .int x2] (gq_p r σ1 τ1) := by
  refine gx_bi (by decide +kernel) (Nat.le_of_ble_eq_true rfl) ?_
  intro P9 e9 s m9 below meth C9 S hr hlk hK hw ls hl
  have hl : lv_has ls 3 [(0, .ref (E.2.2 + 1)), (1, .int x1), (2, .int x2)] := hl
  exact b_X7_hasSign_0 l S hr hlk hK N σ τ x1 x2 h hw hl
/-! X2_add -/
def B_X2_add_0 (N : Nat) (σ : gI) (τ : gJ) (x1 : Int32) (x2 : Int32) (x3 : Int32) (x4 : Int32) : Option (Unit × gI × gJ) := if σ 25 4 < 0 then (some ((), σ, τ)) else (if σ 25 4 < 20 then (ck (σ 25 4) 20 fun j_3 => nm (up2 σ 26 j_3 x1) fun σ_4 => ck (σ_4 25 4) 20 fun j_5 => nm (up2 σ_4 27 j_5 x2) fun σ_6 => ck (σ_6 25 4) 20 fun j_7 => nm (up2 σ_6 28 j_7 x3) fun σ_8 => ck (σ_8 25 4) 20 fun j_9 => nm (up2 σ_8 29 j_9 x4) fun σ_10 => nm (up2 σ_10 25 4 ((σ_10 25 4) + 1)) fun σ_11 => some ((), σ_11, τ)) else (some ((), σ, τ)))
set_option maxHeartbeats 4000000 in
set_option maxRecDepth 100000 in
theorem b_X2_add_0 (l : Launch) (S : CallFix P9 m9 C9 cX2_add 5 s av.toArray gx_G RX2) (hr : meth.sig.returnType = none) (hlk : meth.locks = false) (hK : gx_K E s) (N : Nat) (σ : gI) (τ : gJ) (x1 : Int32) (x2 : Int32) (x3 : Int32) (x4 : Int32) {r : Unit} {σ1 : gI} {τ1 : gJ} (h : B_X2_add_0 N σ τ x1 x2 x3 x4 = some (r, σ1, τ1)) {H : Heap} {locs : List Loc} {ls : Array Slot} (hw : gx_W gx_tb gx_tb.length E s σ τ H locs) (hl : lv_has ls 5 [(0, .ref (E.2.2 + 25)), (1, .int x1), (2, .int x2), (3, .int x3), (4, .int x4)]) : W P9 l e9 (gx_rm 0) s m9 av.toArray below meth C9 H locs 0 0 (gq_Qv below av s E σ1 τ1) (F0 m9 0 ls []) := by
  have hx := S.1
  have hb := S.2.1
  unfold B_X2_add_0 at h
  refine lv_aload_n hx hb dX2_add_0 rfl (lv_at hl 0 rfl) ?_
  refine gx_get S hK hw t_25 cl_3 4 (by decide) rfl mw_246 rfl dX2_add_1 ?_
  refine lv_if_lt (tgt := 16) hx hb dX2_add_4 (by decide) (fun c_1 => ?_) (fun c_1 => ?_)
  · rw [if_pos c_1] at h
    obtain ⟨-, rfl, rfl⟩ := sm_inj h
    exact gx_rv (post := gq_v σ τ) S hr hlk hw dX2_add_16 ⟨rfl, rfl⟩
  · rw [if_neg c_1] at h
    refine lv_aload_n hx hb dX2_add_7 rfl (lv_at hl 0 rfl) ?_
    refine gx_get S hK hw t_25 cl_3 4 (by decide) rfl mw_246 rfl dX2_add_8 ?_
    refine lv_bipush (v := 20) hx hb dX2_add_11 (by decide) ?_
    refine lv_icmp_lt (tgt := 17) hx hb dX2_add_13 (by decide) (fun c_2 => ?_) (fun c_2 => ?_)
    · rw [if_pos c_2] at h
      refine lv_aload_n hx hb dX2_add_17 rfl (lv_at hl 0 rfl) ?_
      refine gx_getr (j := 26) S hK hw t_25 cl_3 0 (by decide) rfl mw_242 rfl dX2_add_18 ?_
      refine lv_aload_n hx hb dX2_add_21 rfl (lv_at hl 0 rfl) ?_
      refine gx_get S hK hw t_25 cl_3 4 (by decide) rfl mw_246 rfl dX2_add_22 ?_
      refine lv_iload_n hx hb dX2_add_25 rfl (lv_at hl 1 rfl) ?_
      obtain ⟨j_3, hj_3, hi_3, h⟩ := ck_some h
      refine gx_iast S hK gx_ok hw t_26 j_3 hj_3 hi_3 dX2_add_26 (fun H locs hw => ?_)
      obtain ⟨σ_4, e_4, h⟩ := nm_some h
      rw [← e_4] at hw
      refine lv_aload_n hx hb dX2_add_27 rfl (lv_at hl 0 rfl) ?_
      refine gx_getr (j := 27) S hK hw t_25 cl_3 1 (by decide) rfl mw_243 rfl dX2_add_28 ?_
      refine lv_aload_n hx hb dX2_add_31 rfl (lv_at hl 0 rfl) ?_
      refine gx_get S hK hw t_25 cl_3 4 (by decide) rfl mw_246 rfl dX2_add_32 ?_
      refine lv_iload_n hx hb dX2_add_35 rfl (lv_at hl 2 rfl) ?_
      obtain ⟨j_5, hj_5, hi_5, h⟩ := ck_some h
      refine gx_iast S hK gx_ok hw t_27 j_5 hj_5 hi_5 dX2_add_36 (fun H locs hw => ?_)
      obtain ⟨σ_6, e_6, h⟩ := nm_some h
      rw [← e_6] at hw
      refine lv_aload_n hx hb dX2_add_37 rfl (lv_at hl 0 rfl) ?_
      refine gx_getr (j := 28) S hK hw t_25 cl_3 2 (by decide) rfl mw_244 rfl dX2_add_38 ?_
      refine lv_aload_n hx hb dX2_add_41 rfl (lv_at hl 0 rfl) ?_
      refine gx_get S hK hw t_25 cl_3 4 (by decide) rfl mw_246 rfl dX2_add_42 ?_
      refine lv_iload_n hx hb dX2_add_45 rfl (lv_at hl 3 rfl) ?_
      obtain ⟨j_7, hj_7, hi_7, h⟩ := ck_some h
      refine gx_iast S hK gx_ok hw t_28 j_7 hj_7 hi_7 dX2_add_46 (fun H locs hw => ?_)
      obtain ⟨σ_8, e_8, h⟩ := nm_some h
      rw [← e_8] at hw
      refine lv_aload_n hx hb dX2_add_47 rfl (lv_at hl 0 rfl) ?_
      refine gx_getr (j := 29) S hK hw t_25 cl_3 3 (by decide) rfl mw_245 rfl dX2_add_48 ?_
      refine lv_aload_n hx hb dX2_add_51 rfl (lv_at hl 0 rfl) ?_
      refine gx_get S hK hw t_25 cl_3 4 (by decide) rfl mw_246 rfl dX2_add_52 ?_
      refine lv_iload hx hb dX2_add_55 (lv_at hl 4 rfl) ?_
      obtain ⟨j_9, hj_9, hi_9, h⟩ := ck_some h
      refine gx_iast S hK gx_ok hw t_29 j_9 hj_9 hi_9 dX2_add_57 (fun H locs hw => ?_)
      obtain ⟨σ_10, e_10, h⟩ := nm_some h
      rw [← e_10] at hw
      refine lv_aload_n hx hb dX2_add_58 rfl (lv_at hl 0 rfl) ?_
      refine lv_dup hx hb dX2_add_59 rfl ?_
      refine gx_get S hK hw t_25 cl_3 4 (by decide) rfl mw_246 rfl dX2_add_60 ?_
      refine lv_iconst (v := 1) hx hb dX2_add_63 (by decide) ?_
      refine lv_iadd hx hb dX2_add_64 ?_
      refine gx_put S hK gx_ok hw t_25 cl_3 4 (by decide) rfl mw_246 rfl rfl (ty := .int) (v := (σ_10 25 4) + 1) (by decide +kernel) rfl rfl dX2_add_65 (fun H locs hw => ?_)
      obtain ⟨σ_11, e_11, h⟩ := nm_some h
      rw [← e_11] at hw
      obtain ⟨-, rfl, rfl⟩ := sm_inj h
      exact gx_rv (post := gq_v σ_11 τ) S hr hlk hw dX2_add_68 ⟨rfl, rfl⟩
    · rw [if_neg c_2] at h
      obtain ⟨-, rfl, rfl⟩ := sm_inj h
      exact gx_rv (post := gq_v σ τ) S hr hlk hw dX2_add_16 ⟨rfl, rfl⟩
set_option maxHeartbeats 4000000 in
set_option maxRecDepth 100000 in
theorem c_X2_add (l : Launch) {E : gE} (N : Nat) (σ : gI) (τ : gJ) (x1 : Int32) (x2 : Int32) (x3 : Int32) (x4 : Int32) {r : Unit} {σ1 : gI} {τ1 : gJ} (h : B_X2_add_0 N σ τ x1 x2 x3 x4 = some (r, σ1, τ1)) : gx_Mv l yX2_add cX2_add 5 none 0 gx_tb E σ τ [.ref (E.2.2 + 25), .int x1, .int x2, .int x3, .int x4] (gq_v σ1 τ1) := by
  refine gx_bv (by decide +kernel) (Nat.le_of_ble_eq_true rfl) ?_
  intro P9 e9 s m9 below meth C9 S hr hlk hK hw ls hl
  have hl : lv_has ls 5 [(0, .ref (E.2.2 + 25)), (1, .int x1), (2, .int x2), (3, .int x3), (4, .int x4)] := hl
  exact b_X2_add_0 l S hr hlk hK N σ τ x1 x2 x3 x4 h hw hl
/-! X2_readPut -/
def B_X2_readPut_0 (N : Nat) (σ : gI) (τ : gJ) (x2 : Int32) : Option (Int32 × gI × gJ) := bd (B_X7_letter_0 N σ τ x2) fun r_1 σ_1 τ_1 => if 0 ≤ r_1 then (bd (B_X2_behindNumber_0 N σ_1 τ_1 (x2 + 1)) fun r_3 σ_3 τ_3 => if 0 ≤ r_3 then (bd (B_X2_numberAt_0 N σ_3 τ_3 (x2 + 1) r_3) fun r_5 σ_5 τ_5 => bd (B_X7_hasSign_0 N σ_5 τ_5 r_3 43) fun r_6 σ_6 τ_6 => if r_6 = 0 then (bd (B_X2_add_0 N σ_6 τ_6 0 r_1 r_5 0) fun _ σ_11 τ_11 => some (r_3, σ_11, τ_11)) else (bd (B_X7_digit_0 N σ_6 τ_6 (r_3 + 1)) fun r_8 σ_8 τ_8 => if 0 ≤ r_8 then (bd (B_X2_add_0 N σ_8 τ_8 0 r_1 r_5 r_8) fun _ σ_10 τ_10 => some (r_3 + 2, σ_10, τ_10)) else (some ((-1) - (r_3 + 1), σ_8, τ_8)))) else (some (r_3, σ_3, τ_3))) else (some ((-1) - x2, σ_1, τ_1))
set_option maxHeartbeats 4000000 in
set_option maxRecDepth 100000 in
theorem b_X2_readPut_0 (l : Launch) (S : CallFix P9 m9 C9 cX2_readPut 7 s av.toArray gx_G RX2) (hr : meth.sig.returnType = (some .int)) (hlk : meth.locks = false) (hK : gx_K E s) (N : Nat) (σ : gI) (τ : gJ) (x2 : Int32) {r : Int32} {σ1 : gI} {τ1 : gJ} (h : B_X2_readPut_0 N σ τ x2 = some (r, σ1, τ1)) {H : Heap} {locs : List Loc} {ls : Array Slot} (hw : gx_W gx_tb gx_tb.length E s σ τ H locs) (hl : lv_has ls 7 [(0, .ref (E.2.2 + 25)), (1, .ref (E.2.2 + 1)), (2, .int x2)]) : W P9 l e9 (gx_rm 3) s m9 av.toArray below meth C9 H locs 0 0 (gq_Qi below av s E r σ1 τ1) (F0 m9 0 ls []) := by
  have hx := S.1
  have hb := S.2.1
  unfold B_X2_readPut_0 at h
  refine lv_aload_n hx hb dX2_readPut_0 rfl (lv_at hl 1 rfl) ?_
  refine lv_iload_n hx hb dX2_readPut_1 rfl (lv_at hl 2 rfl) ?_
  obtain ⟨r_1, σ_1, τ_1, q_1, h⟩ := bd_some h
  refine gx_cVi (As := [.int x2]) (rest := []) S hK gx_ok hw (c_X7_letter l (E := E) N σ τ x2 q_1) cw_X2_65 t_1 cl_8 ⟨Nat.le_of_ble_eq_true rfl, Nat.le_of_ble_eq_true rfl⟩ rfl hl.1 rfl (Nat.le_of_ble_eq_true rfl) ⟨Nat.le_of_ble_eq_true rfl, Nat.le_of_ble_eq_true rfl⟩ dX2_readPut_2 (fun r9 σ9 τ9 H locs hp hw => ?_)
  obtain ⟨rfl, rfl, rfl⟩ := hp
  refine lv_istore_n (lv' := [(3, .int r_1), (0, .ref (E.2.2 + 25)), (1, .ref (E.2.2 + 1)), (2, .int x2)]) hx hb dX2_readPut_5 rfl hl (by decide) rfl (fun ls hl => ?_)
  refine lv_iload_n hx hb dX2_readPut_6 rfl (lv_at hl 0 rfl) ?_
  refine lv_if_ge (tgt := 14) hx hb dX2_readPut_7 (by decide) (fun c_2 => ?_) (fun c_2 => ?_)
  · rw [if_pos c_2] at h
    refine lv_aload_n hx hb dX2_readPut_14 rfl (lv_at hl 2 rfl) ?_
    refine lv_iload_n hx hb dX2_readPut_15 rfl (lv_at hl 3 rfl) ?_
    refine lv_iconst (v := 1) hx hb dX2_readPut_16 (by decide) ?_
    refine lv_iadd hx hb dX2_readPut_17 ?_
    obtain ⟨r_3, σ_3, τ_3, q_3, h⟩ := bd_some h
    refine gx_cSi (As := [.ref (E.2.2 + 1), .int (x2 + 1)]) (rest := []) S hK gx_ok hw (c_X2_behindNumber l (E := E) N σ_1 τ_1 (x2 + 1) q_3) cw_X2_69 ⟨Nat.le_of_ble_eq_true rfl, Nat.le_of_ble_eq_true rfl⟩ rfl hl.1 rfl (Nat.le_of_ble_eq_true rfl) ⟨Nat.le_of_ble_eq_true rfl, Nat.le_of_ble_eq_true rfl⟩ dX2_readPut_18 (fun r9 σ9 τ9 H locs hp hw => ?_)
    obtain ⟨rfl, rfl, rfl⟩ := hp
    refine lv_istore (lv' := [(4, .int r_3), (3, .int r_1), (0, .ref (E.2.2 + 25)), (1, .ref (E.2.2 + 1)), (2, .int x2)]) hx hb dX2_readPut_21 hl (by decide) rfl (fun ls hl => ?_)
    refine lv_iload hx hb dX2_readPut_23 (lv_at hl 0 rfl) ?_
    refine lv_if_ge (tgt := 31) hx hb dX2_readPut_25 (by decide) (fun c_4 => ?_) (fun c_4 => ?_)
    · rw [if_pos c_4] at h
      refine lv_aload_n hx hb dX2_readPut_31 rfl (lv_at hl 3 rfl) ?_
      refine lv_iload_n hx hb dX2_readPut_32 rfl (lv_at hl 4 rfl) ?_
      refine lv_iconst (v := 1) hx hb dX2_readPut_33 (by decide) ?_
      refine lv_iadd hx hb dX2_readPut_34 ?_
      refine lv_iload hx hb dX2_readPut_35 (lv_at hl 0 rfl) ?_
      obtain ⟨r_5, σ_5, τ_5, q_5, h⟩ := bd_some h
      refine gx_cSi (As := [.ref (E.2.2 + 1), .int (x2 + 1), .int r_3]) (rest := []) S hK gx_ok hw (c_X2_numberAt l (E := E) N σ_3 τ_3 (x2 + 1) r_3 q_5) cw_X2_72 ⟨Nat.le_of_ble_eq_true rfl, Nat.le_of_ble_eq_true rfl⟩ rfl hl.1 rfl (Nat.le_of_ble_eq_true rfl) ⟨Nat.le_of_ble_eq_true rfl, Nat.le_of_ble_eq_true rfl⟩ dX2_readPut_37 (fun r9 σ9 τ9 H locs hp hw => ?_)
      obtain ⟨rfl, rfl, rfl⟩ := hp
      refine lv_istore (lv' := [(5, .int r_5), (4, .int r_3), (3, .int r_1), (0, .ref (E.2.2 + 25)), (1, .ref (E.2.2 + 1)), (2, .int x2)]) hx hb dX2_readPut_40 hl (by decide) rfl (fun ls hl => ?_)
      refine lv_aload_n hx hb dX2_readPut_42 rfl (lv_at hl 4 rfl) ?_
      refine lv_iload hx hb dX2_readPut_43 (lv_at hl 1 rfl) ?_
      refine lv_bipush (v := 43) hx hb dX2_readPut_45 (by decide) ?_
      obtain ⟨r_6, σ_6, τ_6, q_6, h⟩ := bd_some h
      refine gx_cVi (As := [.int r_3, .int 43]) (rest := []) S hK gx_ok hw (c_X7_hasSign l (E := E) N σ_5 τ_5 r_3 43 q_6) cw_X2_43 t_1 cl_8 ⟨Nat.le_of_ble_eq_true rfl, Nat.le_of_ble_eq_true rfl⟩ rfl hl.1 rfl (Nat.le_of_ble_eq_true rfl) ⟨Nat.le_of_ble_eq_true rfl, Nat.le_of_ble_eq_true rfl⟩ dX2_readPut_47 (fun r9 σ9 τ9 H locs hp hw => ?_)
      obtain ⟨rfl, rfl, rfl⟩ := hp
      refine lv_if_ne (tgt := 65) hx hb dX2_readPut_50 (by decide) (fun c_7 => ?_) (fun c_7 => ?_)
      · rw [if_neg c_7] at h
        refine lv_aload_n hx hb dX2_readPut_65 rfl (lv_at hl 4 rfl) ?_
        refine lv_iload hx hb dX2_readPut_66 (lv_at hl 1 rfl) ?_
        refine lv_iconst (v := 1) hx hb dX2_readPut_68 (by decide) ?_
        refine lv_iadd hx hb dX2_readPut_69 ?_
        obtain ⟨r_8, σ_8, τ_8, q_8, h⟩ := bd_some h
        refine gx_cVi (As := [.int (r_3 + 1)]) (rest := []) S hK gx_ok hw (c_X7_digit l (E := E) N σ_6 τ_6 (r_3 + 1) q_8) cw_X2_80 t_1 cl_8 ⟨Nat.le_of_ble_eq_true rfl, Nat.le_of_ble_eq_true rfl⟩ rfl hl.1 rfl (Nat.le_of_ble_eq_true rfl) ⟨Nat.le_of_ble_eq_true rfl, Nat.le_of_ble_eq_true rfl⟩ dX2_readPut_70 (fun r9 σ9 τ9 H locs hp hw => ?_)
        obtain ⟨rfl, rfl, rfl⟩ := hp
        refine lv_istore (lv' := [(6, .int r_8), (5, .int r_5), (4, .int r_3), (3, .int r_1), (0, .ref (E.2.2 + 25)), (1, .ref (E.2.2 + 1)), (2, .int x2)]) hx hb dX2_readPut_73 hl (by decide) rfl (fun ls hl => ?_)
        refine lv_iload hx hb dX2_readPut_75 (lv_at hl 0 rfl) ?_
        refine lv_if_ge (tgt := 87) hx hb dX2_readPut_77 (by decide) (fun c_9 => ?_) (fun c_9 => ?_)
        · rw [if_pos c_9] at h
          refine lv_aload_n hx hb dX2_readPut_87 rfl (lv_at hl 4 rfl) ?_
          refine lv_iconst (v := 0) hx hb dX2_readPut_88 (by decide) ?_
          refine lv_iload_n hx hb dX2_readPut_89 rfl (lv_at hl 3 rfl) ?_
          refine lv_iload hx hb dX2_readPut_90 (lv_at hl 1 rfl) ?_
          refine lv_iload hx hb dX2_readPut_92 (lv_at hl 0 rfl) ?_
          obtain ⟨u_10, σ_10, τ_10, q_10, h⟩ := bd_some h
          refine gx_cVv (As := [.int 0, .int r_1, .int r_5, .int r_8]) (rest := []) S hK gx_ok hw (c_X2_add l (E := E) N σ_8 τ_8 0 r_1 r_5 r_8 q_10) cw_X2_76 t_25 cl_3 ⟨Nat.le_of_ble_eq_true rfl, Nat.le_of_ble_eq_true rfl⟩ rfl hl.1 rfl (Nat.le_of_ble_eq_true rfl) ⟨Nat.le_of_ble_eq_true rfl, Nat.le_of_ble_eq_true rfl⟩ dX2_readPut_94 (fun σ9 τ9 H locs hp hw => ?_)
          obtain ⟨rfl, rfl⟩ := hp
          refine lv_iload hx hb dX2_readPut_97 (lv_at hl 2 rfl) ?_
          refine lv_iconst (v := 2) hx hb dX2_readPut_99 (by decide) ?_
          refine lv_iadd hx hb dX2_readPut_100 ?_
          obtain ⟨rfl, rfl, rfl⟩ := sm_inj h
          exact gx_ri (post := gq_p (r_3 + 2) σ_10 τ_10) (v := r_3 + 2) S hr hlk hw rfl dX2_readPut_101 ⟨rfl, rfl, rfl⟩
        · rw [if_neg c_9] at h
          refine lv_iconst (v := (-1)) hx hb dX2_readPut_80 (by decide) ?_
          refine lv_iload hx hb dX2_readPut_81 (lv_at hl 2 rfl) ?_
          refine lv_iconst (v := 1) hx hb dX2_readPut_83 (by decide) ?_
          refine lv_iadd hx hb dX2_readPut_84 ?_
          refine lv_isub hx hb dX2_readPut_85 ?_
          obtain ⟨rfl, rfl, rfl⟩ := sm_inj h
          exact gx_ri (post := gq_p ((-1) - (r_3 + 1)) σ_8 τ_8) (v := (-1) - (r_3 + 1)) S hr hlk hw rfl dX2_readPut_86 ⟨rfl, rfl, rfl⟩
      · rw [if_pos c_7] at h
        refine lv_aload_n hx hb dX2_readPut_53 rfl (lv_at hl 3 rfl) ?_
        refine lv_iconst (v := 0) hx hb dX2_readPut_54 (by decide) ?_
        refine lv_iload_n hx hb dX2_readPut_55 rfl (lv_at hl 2 rfl) ?_
        refine lv_iload hx hb dX2_readPut_56 (lv_at hl 0 rfl) ?_
        refine lv_iconst (v := 0) hx hb dX2_readPut_58 (by decide) ?_
        obtain ⟨u_11, σ_11, τ_11, q_11, h⟩ := bd_some h
        refine gx_cVv (As := [.int 0, .int r_1, .int r_5, .int 0]) (rest := []) S hK gx_ok hw (c_X2_add l (E := E) N σ_6 τ_6 0 r_1 r_5 0 q_11) cw_X2_76 t_25 cl_3 ⟨Nat.le_of_ble_eq_true rfl, Nat.le_of_ble_eq_true rfl⟩ rfl hl.1 rfl (Nat.le_of_ble_eq_true rfl) ⟨Nat.le_of_ble_eq_true rfl, Nat.le_of_ble_eq_true rfl⟩ dX2_readPut_59 (fun σ9 τ9 H locs hp hw => ?_)
        obtain ⟨rfl, rfl⟩ := hp
        refine lv_iload hx hb dX2_readPut_62 (lv_at hl 1 rfl) ?_
        obtain ⟨rfl, rfl, rfl⟩ := sm_inj h
        exact gx_ri (post := gq_p r_3 σ_11 τ_11) (v := r_3) S hr hlk hw rfl dX2_readPut_64 ⟨rfl, rfl, rfl⟩
    · rw [if_neg c_4] at h
      refine lv_iload hx hb dX2_readPut_28 (lv_at hl 0 rfl) ?_
      obtain ⟨rfl, rfl, rfl⟩ := sm_inj h
      exact gx_ri (post := gq_p r_3 σ_3 τ_3) (v := r_3) S hr hlk hw rfl dX2_readPut_30 ⟨rfl, rfl, rfl⟩
  · rw [if_neg c_2] at h
    refine lv_iconst (v := (-1)) hx hb dX2_readPut_10 (by decide) ?_
    refine lv_iload_n hx hb dX2_readPut_11 rfl (lv_at hl 3 rfl) ?_
    refine lv_isub hx hb dX2_readPut_12 ?_
    obtain ⟨rfl, rfl, rfl⟩ := sm_inj h
    exact gx_ri (post := gq_p ((-1) - x2) σ_1 τ_1) (v := (-1) - x2) S hr hlk hw rfl dX2_readPut_13 ⟨rfl, rfl, rfl⟩
set_option maxHeartbeats 4000000 in
set_option maxRecDepth 100000 in
theorem c_X2_readPut (l : Launch) {E : gE} (N : Nat) (σ : gI) (τ : gJ) (x2 : Int32) {r : Int32} {σ1 : gI} {τ1 : gJ} (h : B_X2_readPut_0 N σ τ x2 = some (r, σ1, τ1)) : gx_Mi l yX2_readPut cX2_readPut 7 (some .int) 3 gx_tb E σ τ [.ref (E.2.2 + 25), .ref (E.2.2 + 1), .int x2] (gq_p r σ1 τ1) := by
  refine gx_bi (by decide +kernel) (Nat.le_of_ble_eq_true rfl) ?_
  intro P9 e9 s m9 below meth C9 S hr hlk hK hw ls hl
  have hl : lv_has ls 7 [(0, .ref (E.2.2 + 25)), (1, .ref (E.2.2 + 1)), (2, .int x2)] := hl
  exact b_X2_readPut_0 l S hr hlk hK N σ τ x2 h hw hl
/-! X2_readTurn -/
def B_X2_readTurn_0 (N : Nat) (σ : gI) (τ : gJ) (x2 : Int32) : Option (Int32 × gI × gJ) := bd (B_X7_letter_0 N σ τ x2) fun r_1 σ_1 τ_1 => if 0 ≤ r_1 then (bd (B_X2_add_0 N σ_1 τ_1 1 r_1 0 0) fun _ σ_3 τ_3 => some (x2 + 1, σ_3, τ_3)) else (some ((-1) - x2, σ_1, τ_1))
set_option maxHeartbeats 4000000 in
set_option maxRecDepth 100000 in
theorem b_X2_readTurn_0 (l : Launch) (S : CallFix P9 m9 C9 cX2_readTurn 4 s av.toArray gx_G RX2) (hr : meth.sig.returnType = (some .int)) (hlk : meth.locks = false) (hK : gx_K E s) (N : Nat) (σ : gI) (τ : gJ) (x2 : Int32) {r : Int32} {σ1 : gI} {τ1 : gJ} (h : B_X2_readTurn_0 N σ τ x2 = some (r, σ1, τ1)) {H : Heap} {locs : List Loc} {ls : Array Slot} (hw : gx_W gx_tb gx_tb.length E s σ τ H locs) (hl : lv_has ls 4 [(0, .ref (E.2.2 + 25)), (1, .ref (E.2.2 + 1)), (2, .int x2)]) : W P9 l e9 (gx_rm 2) s m9 av.toArray below meth C9 H locs 0 0 (gq_Qi below av s E r σ1 τ1) (F0 m9 0 ls []) := by
  have hx := S.1
  have hb := S.2.1
  unfold B_X2_readTurn_0 at h
  refine lv_aload_n hx hb dX2_readTurn_0 rfl (lv_at hl 1 rfl) ?_
  refine lv_iload_n hx hb dX2_readTurn_1 rfl (lv_at hl 2 rfl) ?_
  obtain ⟨r_1, σ_1, τ_1, q_1, h⟩ := bd_some h
  refine gx_cVi (As := [.int x2]) (rest := []) S hK gx_ok hw (c_X7_letter l (E := E) N σ τ x2 q_1) cw_X2_65 t_1 cl_8 ⟨Nat.le_of_ble_eq_true rfl, Nat.le_of_ble_eq_true rfl⟩ rfl hl.1 rfl (Nat.le_of_ble_eq_true rfl) ⟨Nat.le_of_ble_eq_true rfl, Nat.le_of_ble_eq_true rfl⟩ dX2_readTurn_2 (fun r9 σ9 τ9 H locs hp hw => ?_)
  obtain ⟨rfl, rfl, rfl⟩ := hp
  refine lv_istore_n (lv' := [(3, .int r_1), (0, .ref (E.2.2 + 25)), (1, .ref (E.2.2 + 1)), (2, .int x2)]) hx hb dX2_readTurn_5 rfl hl (by decide) rfl (fun ls hl => ?_)
  refine lv_iload_n hx hb dX2_readTurn_6 rfl (lv_at hl 0 rfl) ?_
  refine lv_if_ge (tgt := 14) hx hb dX2_readTurn_7 (by decide) (fun c_2 => ?_) (fun c_2 => ?_)
  · rw [if_pos c_2] at h
    refine lv_aload_n hx hb dX2_readTurn_14 rfl (lv_at hl 1 rfl) ?_
    refine lv_iconst (v := 1) hx hb dX2_readTurn_15 (by decide) ?_
    refine lv_iload_n hx hb dX2_readTurn_16 rfl (lv_at hl 0 rfl) ?_
    refine lv_iconst (v := 0) hx hb dX2_readTurn_17 (by decide) ?_
    refine lv_iconst (v := 0) hx hb dX2_readTurn_18 (by decide) ?_
    obtain ⟨u_3, σ_3, τ_3, q_3, h⟩ := bd_some h
    refine gx_cVv (As := [.int 1, .int r_1, .int 0, .int 0]) (rest := []) S hK gx_ok hw (c_X2_add l (E := E) N σ_1 τ_1 1 r_1 0 0 q_3) cw_X2_76 t_25 cl_3 ⟨Nat.le_of_ble_eq_true rfl, Nat.le_of_ble_eq_true rfl⟩ rfl hl.1 rfl (Nat.le_of_ble_eq_true rfl) ⟨Nat.le_of_ble_eq_true rfl, Nat.le_of_ble_eq_true rfl⟩ dX2_readTurn_19 (fun σ9 τ9 H locs hp hw => ?_)
    obtain ⟨rfl, rfl⟩ := hp
    refine lv_iload_n hx hb dX2_readTurn_22 rfl (lv_at hl 3 rfl) ?_
    refine lv_iconst (v := 1) hx hb dX2_readTurn_23 (by decide) ?_
    refine lv_iadd hx hb dX2_readTurn_24 ?_
    obtain ⟨rfl, rfl, rfl⟩ := sm_inj h
    exact gx_ri (post := gq_p (x2 + 1) σ_3 τ_3) (v := x2 + 1) S hr hlk hw rfl dX2_readTurn_25 ⟨rfl, rfl, rfl⟩
  · rw [if_neg c_2] at h
    refine lv_iconst (v := (-1)) hx hb dX2_readTurn_10 (by decide) ?_
    refine lv_iload_n hx hb dX2_readTurn_11 rfl (lv_at hl 3 rfl) ?_
    refine lv_isub hx hb dX2_readTurn_12 ?_
    obtain ⟨rfl, rfl, rfl⟩ := sm_inj h
    exact gx_ri (post := gq_p ((-1) - x2) σ_1 τ_1) (v := (-1) - x2) S hr hlk hw rfl dX2_readTurn_13 ⟨rfl, rfl, rfl⟩
set_option maxHeartbeats 4000000 in
set_option maxRecDepth 100000 in
theorem c_X2_readTurn (l : Launch) {E : gE} (N : Nat) (σ : gI) (τ : gJ) (x2 : Int32) {r : Int32} {σ1 : gI} {τ1 : gJ} (h : B_X2_readTurn_0 N σ τ x2 = some (r, σ1, τ1)) : gx_Mi l yX2_readTurn cX2_readTurn 4 (some .int) 2 gx_tb E σ τ [.ref (E.2.2 + 25), .ref (E.2.2 + 1), .int x2] (gq_p r σ1 τ1) := by
  refine gx_bi (by decide +kernel) (Nat.le_of_ble_eq_true rfl) ?_
  intro P9 e9 s m9 below meth C9 S hr hlk hK hw ls hl
  have hl : lv_has ls 4 [(0, .ref (E.2.2 + 25)), (1, .ref (E.2.2 + 1)), (2, .int x2)] := hl
  exact b_X2_readTurn_0 l S hr hlk hK N σ τ x2 h hw hl
end F1
