section F5
variable {a9 v9 : Nat} {w9 : Value} {P9 : Program} {e9 : Env} {s : State} {m9 : MethodId} {below : List Frame} {meth : Method} {C9 : Code} {E : gE} {av : List Value}
/-! X11_water -/
def B_X11_water_0 (N : Nat) (σ : gI) (τ : gJ) : Option (Int32 × gI × gJ) := bd (B_X10_read_0 N σ τ) fun r_1 σ_1 τ_1 => bd (B_X7_cut_0 N σ_1 τ_1 0) fun r_2 σ_2 τ_2 => some (r_1, σ_2, τ_2)
set_option maxHeartbeats 4000000 in
set_option maxRecDepth 100000 in
theorem b_X11_water_0 (l : Launch) (S : CallFix P9 m9 C9 cX11_water 2 s av.toArray gx_G RX11) (hr : meth.sig.returnType = (some .int)) (hlk : meth.locks = false) (hK : gx_K E s) (N : Nat) (σ : gI) (τ : gJ) {r : Int32} {σ1 : gI} {τ1 : gJ} (h : B_X11_water_0 N σ τ = some (r, σ1, τ1)) {H : Heap} {locs : List Loc} {ls : Array Slot} (hw : gx_W gx_tb gx_tb.length E s σ τ H locs) (hl : lv_has ls 2 [(0, .ref (E.2.2 + 0))]) : W P9 l e9 (gx_rm 3) s m9 av.toArray below meth C9 H locs 0 0 (gq_Qi below av s E r σ1 τ1) (F0 m9 0 ls []) := by
  have hx := S.1
  have hb := S.2.1
  unfold B_X11_water_0 at h
  refine lv_aload_n hx hb dX11_water_0 rfl (lv_at hl 0 rfl) ?_
  refine gx_getr (j := 15) S hK hw t_0 cl_12 3 (by decide) rfl mw_450 rfl dX11_water_1 ?_
  refine lv_aload_n hx hb dX11_water_4 rfl (lv_at hl 0 rfl) ?_
  refine gx_getr (j := 1) S hK hw t_0 cl_12 0 (by decide) rfl mw_447 rfl dX11_water_5 ?_
  obtain ⟨r_1, σ_1, τ_1, q_1, h⟩ := bd_some h
  refine gx_cVi (As := [.ref (E.2.2 + 1)]) (rest := []) S hK gx_ok hw (c_X10_read l (E := E) N σ τ q_1) cw_X11_132 t_15 cl_11 ⟨Nat.le_of_ble_eq_true rfl, Nat.le_of_ble_eq_true rfl⟩ rfl hl.1 rfl (Nat.le_of_ble_eq_true rfl) ⟨Nat.le_of_ble_eq_true rfl, Nat.le_of_ble_eq_true rfl⟩ dX11_water_8 (fun r9 σ9 τ9 H locs hp hw => ?_)
  obtain ⟨rfl, rfl, rfl⟩ := hp
  refine lv_istore_n (lv' := [(1, .int r_1), (0, .ref (E.2.2 + 0))]) hx hb dX11_water_11 rfl hl (by decide) rfl (fun ls hl => ?_)
  refine lv_aload_n hx hb dX11_water_12 rfl (lv_at hl 1 rfl) ?_
  refine gx_getr (j := 1) S hK hw t_0 cl_12 0 (by decide) rfl mw_447 rfl dX11_water_13 ?_
  refine lv_iconst (v := 0) hx hb dX11_water_16 (by decide) ?_
  obtain ⟨r_2, σ_2, τ_2, q_2, h⟩ := bd_some h
  refine gx_cVi (As := [.int 0]) (rest := []) S hK gx_ok hw (c_X7_cut l (E := E) N σ_1 τ_1 0 q_2) cw_X11_111 t_1 cl_8 ⟨Nat.le_of_ble_eq_true rfl, Nat.le_of_ble_eq_true rfl⟩ rfl hl.1 rfl (Nat.le_of_ble_eq_true rfl) ⟨Nat.le_of_ble_eq_true rfl, Nat.le_of_ble_eq_true rfl⟩ dX11_water_17 (fun r9 σ9 τ9 H locs hp hw => ?_)
  obtain ⟨rfl, rfl, rfl⟩ := hp
  refine lv_pop hx hb dX11_water_20 rfl ?_
  refine lv_iload_n hx hb dX11_water_21 rfl (lv_at hl 0 rfl) ?_
  obtain ⟨rfl, rfl, rfl⟩ := sm_inj h
  exact gx_ri (post := gq_p r_1 σ_2 τ_2) (v := r_1) S hr hlk hw rfl dX11_water_22 ⟨rfl, rfl, rfl⟩
set_option maxHeartbeats 4000000 in
set_option maxRecDepth 100000 in
theorem c_X11_water (l : Launch) {E : gE} (N : Nat) (σ : gI) (τ : gJ) {r : Int32} {σ1 : gI} {τ1 : gJ} (h : B_X11_water_0 N σ τ = some (r, σ1, τ1)) : gx_Mi l yX11_water cX11_water 2 (some .int) 3 gx_tb E σ τ [.ref (E.2.2 + 0)] (gq_p r σ1 τ1) := by
  refine gx_bi (by decide +kernel) (Nat.le_of_ble_eq_true rfl) ?_
  intro P9 e9 s m9 below meth C9 S hr hlk hK hw ls hl
  have hl : lv_has ls 2 [(0, .ref (E.2.2 + 0))] := hl
  exact b_X11_water_0 l S hr hlk hK N σ τ h hw hl
/-! X11_ways -/
def B_X11_ways_118 (N : Nat) (rec_73 : gI → gJ → Int32 → Int32 → Int32 → Int32 → Int32 → Int32 → Option (Int32 × gI × gJ)) (σ : gI) (τ : gJ) (x4 : Int32) (x5 : Int32) (x8 : Int32) (x9 : Int32) (y0 : Int32) : Option (Int32 × gI × gJ) := bd (B_X8_nextSet_0 N σ τ x8) fun r_1 σ_1 τ_1 => nm (x9 + 1) fun v_2 => rec_73 σ_1 τ_1 x4 x5 y0 x8 r_1 v_2
def C_X11_ways_73 (N : Nat) (rec_73 : gI → gJ → Int32 → Int32 → Int32 → Int32 → Int32 → Int32 → Option (Int32 × gI × gJ)) (σ : gI) (τ : gJ) (x4 : Int32) (x5 : Int32) (x6 : Int32) (x7 : Int32) (x8 : Int32) (x9 : Int32) : Option (Int32 × gI × gJ) := if σ 3 8 ≤ x9 then (bd (B_X4_tell__0 N σ τ x6.toInt64 x7.toInt64) fun _ σ_2 τ_2 => some (x5, σ_2, τ_2)) else (bd (B_X9_outcome_0 N σ τ x8) fun r_3 σ_3 τ_3 => bd (B_X11_isIn_0 N σ_3 τ_3 r_3 x4) fun r_4 σ_4 τ_4 => if r_4 = 0 then (bd (B_X8_nextSet_0 N σ_4 τ_4 x8) fun r_6 σ_6 τ_6 => nm (x9 + 1) fun v_7 => rec_73 σ_6 τ_6 x4 x5 x6 x7 r_6 v_7) else (nm (x5 + 1) fun v_8 => if x6 = (-1) then (B_X11_ways_118 N rec_73 σ_4 τ_4 x4 v_8 x8 x9 x8) else (B_X11_ways_118 N rec_73 σ_4 τ_4 x4 v_8 x8 x9 x6)))
def H_X11_ways_73 (N : Nat) : Nat → gI → gJ → Int32 → Int32 → Int32 → Int32 → Int32 → Int32 → Option (Int32 × gI × gJ) := itn (fun rec_73 => C_X11_ways_73 N rec_73) (fun _ _ _ _ _ _ _ _ => none)
def B_X11_ways_0 (N : Nat) (σ : gI) (τ : gJ) (x1 : Int32) (x2 : Int32) (x3 : Int32) (x4 : Int32) : Option (Int32 × gI × gJ) := bd (B_X8_has_0 N σ τ x1) fun r_1 σ_1 τ_1 => if r_1 = 0 then (some ((-1), σ_1, τ_1)) else (bd (B_X11_isLoad_0 N σ_1 τ_1 x2 x3) fun r_3 σ_3 τ_3 => if r_3 = 0 then (some ((-1), σ_3, τ_3)) else (bd (B_X8_isKitchen_0 N σ_3 τ_3 x4) fun r_5 σ_5 τ_5 => if r_5 = 0 then (some ((-1), σ_5, τ_5)) else (bd (B_X9_thinkOf_0 N σ_5 τ_5 x1 x2 x3 0 (σ_5 30 8)) fun _ σ_7 τ_7 => bd (B_X9_forgetSets_0 N σ_7 τ_7) fun _ σ_8 τ_8 => H_X11_ways_73 N N σ_8 τ_8 x4 0 (-1) (-1) 0 0)))
set_option maxHeartbeats 4000000 in
set_option maxRecDepth 100000 in
theorem b_X11_ways_118 (l : Launch) (S : CallFix P9 m9 C9 cX11_ways 10 s av.toArray gx_G RX11) (hr : meth.sig.returnType = (some .int)) (hlk : meth.locks = false) (hK : gx_K E s) (N : Nat) (rec_73 : gI → gJ → Int32 → Int32 → Int32 → Int32 → Int32 → Int32 → Option (Int32 × gI × gJ)) (hrec_73 : ∀ (σ : gI) (τ : gJ) (x4 : Int32) (x5 : Int32) (x6 : Int32) (x7 : Int32) (x8 : Int32) (x9 : Int32) (r : Int32) (σ1 : gI) (τ1 : gJ) (H : Heap) (locs : List Loc) (ls : Array Slot), rec_73 σ τ x4 x5 x6 x7 x8 x9 = some (r, σ1, τ1) → gx_W gx_tb gx_tb.length E s σ τ H locs → lv_has ls 10 [(0, .ref (E.2.2 + 0)), (4, .int x4), (5, .int x5), (6, .int x6), (7, .int x7), (8, .int x8), (9, .int x9)] → W P9 l e9 (gx_rm 6) s m9 av.toArray below meth C9 H locs 0 0 (gq_Qi below av s E r σ1 τ1) (F0 m9 73 ls [])) (σ : gI) (τ : gJ) (x4 : Int32) (x5 : Int32) (x8 : Int32) (x9 : Int32) (y0 : Int32) {r : Int32} {σ1 : gI} {τ1 : gJ} (h : B_X11_ways_118 N rec_73 σ τ x4 x5 x8 x9 y0 = some (r, σ1, τ1)) {H : Heap} {locs : List Loc} {ls : Array Slot} (hw : gx_W gx_tb gx_tb.length E s σ τ H locs) (hl : lv_has ls 10 [(0, .ref (E.2.2 + 0)), (4, .int x4), (5, .int x5), (8, .int x8), (9, .int x9)]) : W P9 l e9 (gx_rm 6) s m9 av.toArray below meth C9 H locs 0 0 (gq_Qi below av s E r σ1 τ1) (F0 m9 118 ls [.int y0]) := by
  have hx := S.1
  have hb := S.2.1
  unfold B_X11_ways_118 at h
  refine lv_istore (lv' := [(6, .int y0), (0, .ref (E.2.2 + 0)), (4, .int x4), (5, .int x5), (8, .int x8), (9, .int x9)]) hx hb dX11_ways_118 hl (by decide) rfl (fun ls hl => ?_)
  refine lv_iload hx hb dX11_ways_120 (lv_at hl 4 rfl) ?_
  refine lv_istore (lv' := [(7, .int x8), (6, .int y0), (0, .ref (E.2.2 + 0)), (4, .int x4), (5, .int x5), (8, .int x8), (9, .int x9)]) hx hb dX11_ways_122 hl (by decide) rfl (fun ls hl => ?_)
  refine lv_aload_n hx hb dX11_ways_124 rfl (lv_at hl 2 rfl) ?_
  refine gx_getr (j := 3) S hK hw t_0 cl_12 1 (by decide) rfl mw_448 rfl dX11_ways_125 ?_
  refine lv_iload hx hb dX11_ways_128 (lv_at hl 5 rfl) ?_
  obtain ⟨r_1, σ_1, τ_1, q_1, h⟩ := bd_some h
  refine gx_cVi (As := [.int x8]) (rest := []) S hK gx_ok hw (c_X8_nextSet l (E := E) N σ τ x8 q_1) cw_X11_359 t_3 cl_9 ⟨Nat.le_of_ble_eq_true rfl, Nat.le_of_ble_eq_true rfl⟩ rfl hl.1 rfl (Nat.le_of_ble_eq_true rfl) ⟨Nat.le_of_ble_eq_true rfl, Nat.le_of_ble_eq_true rfl⟩ dX11_ways_130 (fun r9 σ9 τ9 H locs hp hw => ?_)
  obtain ⟨rfl, rfl, rfl⟩ := hp
  refine lv_istore (lv' := [(8, .int r_1), (7, .int x8), (6, .int y0), (0, .ref (E.2.2 + 0)), (4, .int x4), (5, .int x5), (9, .int x9)]) hx hb dX11_ways_133 hl (by decide) rfl (fun ls hl => ?_)
  refine lv_iinc (v := x9 + 1) (lv' := [(9, .int (x9 + 1)), (8, .int r_1), (7, .int x8), (6, .int y0), (0, .ref (E.2.2 + 0)), (4, .int x4), (5, .int x5)]) hx hb dX11_ways_135 hl (k := 6) rfl rfl (by decide) rfl (fun ls hl => ?_)
  obtain ⟨v_2, e_2, h⟩ := nm_some h
  have hl : lv_has ls 10 [(9, .int v_2), (8, .int r_1), (7, .int x8), (6, .int y0), (0, .ref (E.2.2 + 0)), (4, .int x4), (5, .int x5)] := by rw [e_2]; exact hl
  refine lv_goto (tgt := 73) hx hb dX11_ways_138 (by decide) ?_
  exact hrec_73 σ_1 τ_1 x4 x5 y0 x8 r_1 v_2 _ _ _ _ _ _ h hw (lv_sub hl [4, 5, 6, 3, 2, 1, 0] rfl)
set_option maxHeartbeats 4000000 in
set_option maxRecDepth 100000 in
theorem k_X11_ways_73 (l : Launch) (S : CallFix P9 m9 C9 cX11_ways 10 s av.toArray gx_G RX11) (hr : meth.sig.returnType = (some .int)) (hlk : meth.locks = false) (hK : gx_K E s) (N : Nat) (rec_73 : gI → gJ → Int32 → Int32 → Int32 → Int32 → Int32 → Int32 → Option (Int32 × gI × gJ)) (hrec_73 : ∀ (σ : gI) (τ : gJ) (x4 : Int32) (x5 : Int32) (x6 : Int32) (x7 : Int32) (x8 : Int32) (x9 : Int32) (r : Int32) (σ1 : gI) (τ1 : gJ) (H : Heap) (locs : List Loc) (ls : Array Slot), rec_73 σ τ x4 x5 x6 x7 x8 x9 = some (r, σ1, τ1) → gx_W gx_tb gx_tb.length E s σ τ H locs → lv_has ls 10 [(0, .ref (E.2.2 + 0)), (4, .int x4), (5, .int x5), (6, .int x6), (7, .int x7), (8, .int x8), (9, .int x9)] → W P9 l e9 (gx_rm 6) s m9 av.toArray below meth C9 H locs 0 0 (gq_Qi below av s E r σ1 τ1) (F0 m9 73 ls [])) (σ : gI) (τ : gJ) (x4 : Int32) (x5 : Int32) (x6 : Int32) (x7 : Int32) (x8 : Int32) (x9 : Int32) {r : Int32} {σ1 : gI} {τ1 : gJ} (h : C_X11_ways_73 N rec_73 σ τ x4 x5 x6 x7 x8 x9 = some (r, σ1, τ1)) {H : Heap} {locs : List Loc} {ls : Array Slot} (hw : gx_W gx_tb gx_tb.length E s σ τ H locs) (hl : lv_has ls 10 [(0, .ref (E.2.2 + 0)), (4, .int x4), (5, .int x5), (6, .int x6), (7, .int x7), (8, .int x8), (9, .int x9)]) : W P9 l e9 (gx_rm 6) s m9 av.toArray below meth C9 H locs 0 0 (gq_Qi below av s E r σ1 τ1) (F0 m9 73 ls []) := by
  have hx := S.1
  have hb := S.2.1
  unfold C_X11_ways_73 at h
  refine lv_iload hx hb dX11_ways_73 (lv_at hl 6 rfl) ?_
  refine lv_aload_n hx hb dX11_ways_75 rfl (lv_at hl 0 rfl) ?_
  refine gx_getr (j := 3) S hK hw t_0 cl_12 1 (by decide) rfl mw_448 rfl dX11_ways_76 ?_
  refine gx_get S hK hw t_3 cl_9 8 (by decide) rfl mw_161 rfl dX11_ways_79 ?_
  refine lv_icmp_ge (tgt := 141) hx hb dX11_ways_82 (by decide) (fun c_1 => ?_) (fun c_1 => ?_)
  · rw [if_pos c_1] at h
    refine lv_aload_n hx hb dX11_ways_141 rfl (lv_at hl 0 rfl) ?_
    refine gx_getr (j := 156) S hK hw t_0 cl_12 13 (by decide) rfl mw_460 rfl dX11_ways_142 ?_
    refine lv_iload hx hb dX11_ways_145 (lv_at hl 3 rfl) ?_
    refine lv_i2l (v := x6.toInt64) hx hb dX11_ways_147 rfl ?_
    refine lv_iload hx hb dX11_ways_148 (lv_at hl 4 rfl) ?_
    refine lv_i2l (v := x7.toInt64) hx hb dX11_ways_150 rfl ?_
    obtain ⟨u_2, σ_2, τ_2, q_2, h⟩ := bd_some h
    refine gx_cVv (As := [.long x6.toInt64, .long x7.toInt64]) (rest := []) S hK gx_ok hw (c_X4_tell_ l (E := E) N σ τ x6.toInt64 x7.toInt64 q_2) cw_X11_257 t_156 cl_5 ⟨Nat.le_of_ble_eq_true rfl, Nat.le_of_ble_eq_true rfl⟩ rfl hl.1 rfl (Nat.le_of_ble_eq_true rfl) ⟨Nat.le_of_ble_eq_true rfl, Nat.le_of_ble_eq_true rfl⟩ dX11_ways_151 (fun σ9 τ9 H locs hp hw => ?_)
    obtain ⟨rfl, rfl⟩ := hp
    refine lv_iload hx hb dX11_ways_154 (lv_at hl 2 rfl) ?_
    obtain ⟨rfl, rfl, rfl⟩ := sm_inj h
    exact gx_ri (post := gq_p x5 σ_2 τ_2) (v := x5) S hr hlk hw rfl dX11_ways_156 ⟨rfl, rfl, rfl⟩
  · rw [if_neg c_1] at h
    refine lv_aload_n hx hb dX11_ways_85 rfl (lv_at hl 0 rfl) ?_
    refine gx_getr (j := 160) S hK hw t_0 cl_12 15 (by decide) rfl mw_462 rfl dX11_ways_86 ?_
    refine lv_iload hx hb dX11_ways_89 (lv_at hl 5 rfl) ?_
    obtain ⟨r_3, σ_3, τ_3, q_3, h⟩ := bd_some h
    refine gx_cVi (As := [.int x8]) (rest := []) S hK gx_ok hw (c_X9_outcome l (E := E) N σ τ x8 q_3) cw_X11_356 t_160 cl_10 ⟨Nat.le_of_ble_eq_true rfl, Nat.le_of_ble_eq_true rfl⟩ rfl hl.1 rfl (Nat.le_of_ble_eq_true rfl) ⟨Nat.le_of_ble_eq_true rfl, Nat.le_of_ble_eq_true rfl⟩ dX11_ways_91 (fun r9 σ9 τ9 H locs hp hw => ?_)
    obtain ⟨rfl, rfl, rfl⟩ := hp
    refine lv_iload hx hb dX11_ways_94 (lv_at hl 1 rfl) ?_
    obtain ⟨r_4, σ_4, τ_4, q_4, h⟩ := bd_some h
    refine gx_cSi (As := [.int r_3, .int x4]) (rest := []) S hK gx_ok hw (c_X11_isIn l (E := E) N σ_3 τ_3 r_3 x4 q_4) cw_X11_317 ⟨Nat.le_of_ble_eq_true rfl, Nat.le_of_ble_eq_true rfl⟩ rfl hl.1 rfl (Nat.le_of_ble_eq_true rfl) ⟨Nat.le_of_ble_eq_true rfl, Nat.le_of_ble_eq_true rfl⟩ dX11_ways_96 (fun r9 σ9 τ9 H locs hp hw => ?_)
    obtain ⟨rfl, rfl, rfl⟩ := hp
    refine lv_if_eq (tgt := 124) hx hb dX11_ways_99 (by decide) (fun c_5 => ?_) (fun c_5 => ?_)
    · rw [if_pos c_5] at h
      refine lv_aload_n hx hb dX11_ways_124 rfl (lv_at hl 0 rfl) ?_
      refine gx_getr (j := 3) S hK hw t_0 cl_12 1 (by decide) rfl mw_448 rfl dX11_ways_125 ?_
      refine lv_iload hx hb dX11_ways_128 (lv_at hl 5 rfl) ?_
      obtain ⟨r_6, σ_6, τ_6, q_6, h⟩ := bd_some h
      refine gx_cVi (As := [.int x8]) (rest := []) S hK gx_ok hw (c_X8_nextSet l (E := E) N σ_4 τ_4 x8 q_6) cw_X11_359 t_3 cl_9 ⟨Nat.le_of_ble_eq_true rfl, Nat.le_of_ble_eq_true rfl⟩ rfl hl.1 rfl (Nat.le_of_ble_eq_true rfl) ⟨Nat.le_of_ble_eq_true rfl, Nat.le_of_ble_eq_true rfl⟩ dX11_ways_130 (fun r9 σ9 τ9 H locs hp hw => ?_)
      obtain ⟨rfl, rfl, rfl⟩ := hp
      refine lv_istore (lv' := [(8, .int r_6), (0, .ref (E.2.2 + 0)), (4, .int x4), (5, .int x5), (6, .int x6), (7, .int x7), (9, .int x9)]) hx hb dX11_ways_133 hl (by decide) rfl (fun ls hl => ?_)
      refine lv_iinc (v := x9 + 1) (lv' := [(9, .int (x9 + 1)), (8, .int r_6), (0, .ref (E.2.2 + 0)), (4, .int x4), (5, .int x5), (6, .int x6), (7, .int x7)]) hx hb dX11_ways_135 hl (k := 6) rfl rfl (by decide) rfl (fun ls hl => ?_)
      obtain ⟨v_7, e_7, h⟩ := nm_some h
      have hl : lv_has ls 10 [(9, .int v_7), (8, .int r_6), (0, .ref (E.2.2 + 0)), (4, .int x4), (5, .int x5), (6, .int x6), (7, .int x7)] := by rw [e_7]; exact hl
      refine lv_goto (tgt := 73) hx hb dX11_ways_138 (by decide) ?_
      exact hrec_73 σ_6 τ_6 x4 x5 x6 x7 r_6 v_7 _ _ _ _ _ _ h hw (lv_sub hl [2, 3, 4, 5, 6, 1, 0] rfl)
    · rw [if_neg c_5] at h
      refine lv_iinc (v := x5 + 1) (lv' := [(5, .int (x5 + 1)), (0, .ref (E.2.2 + 0)), (4, .int x4), (6, .int x6), (7, .int x7), (8, .int x8), (9, .int x9)]) hx hb dX11_ways_102 hl (k := 2) rfl rfl (by decide) rfl (fun ls hl => ?_)
      obtain ⟨v_8, e_8, h⟩ := nm_some h
      have hl : lv_has ls 10 [(5, .int v_8), (0, .ref (E.2.2 + 0)), (4, .int x4), (6, .int x6), (7, .int x7), (8, .int x8), (9, .int x9)] := by rw [e_8]; exact hl
      refine lv_iload hx hb dX11_ways_105 (lv_at hl 3 rfl) ?_
      refine lv_iconst (v := (-1)) hx hb dX11_ways_107 (by decide) ?_
      refine lv_icmp_ne (tgt := 116) hx hb dX11_ways_108 (by decide) (fun c_9 => ?_) (fun c_9 => ?_)
      · rw [if_neg c_9] at h
        refine lv_iload hx hb dX11_ways_116 (lv_at hl 3 rfl) ?_
        exact b_X11_ways_118 l S hr hlk hK N rec_73 hrec_73 σ_4 τ_4 x4 v_8 x8 x9 x6 h hw (lv_sub hl [1, 2, 0, 5, 6] rfl)
      · rw [if_pos c_9] at h
        refine lv_iload hx hb dX11_ways_111 (lv_at hl 5 rfl) ?_
        refine lv_goto (tgt := 118) hx hb dX11_ways_113 (by decide) ?_
        exact b_X11_ways_118 l S hr hlk hK N rec_73 hrec_73 σ_4 τ_4 x4 v_8 x8 x9 x8 h hw (lv_sub hl [1, 2, 0, 5, 6] rfl)
set_option maxHeartbeats 4000000 in
set_option maxRecDepth 100000 in
theorem h_X11_ways_73 (l : Launch) (S : CallFix P9 m9 C9 cX11_ways 10 s av.toArray gx_G RX11) (hr : meth.sig.returnType = (some .int)) (hlk : meth.locks = false) (hK : gx_K E s) (N : Nat) : ∀ (n : Nat) (σ : gI) (τ : gJ) (x4 : Int32) (x5 : Int32) (x6 : Int32) (x7 : Int32) (x8 : Int32) (x9 : Int32) (r : Int32) (σ1 : gI) (τ1 : gJ), H_X11_ways_73 N n σ τ x4 x5 x6 x7 x8 x9 = some (r, σ1, τ1) → ∀ (H : Heap) (locs : List Loc) (ls : Array Slot), gx_W gx_tb gx_tb.length E s σ τ H locs → lv_has ls 10 [(0, .ref (E.2.2 + 0)), (4, .int x4), (5, .int x5), (6, .int x6), (7, .int x7), (8, .int x8), (9, .int x9)] → W P9 l e9 (gx_rm 6) s m9 av.toArray below meth C9 H locs 0 0 (gq_Qi below av s E r σ1 τ1) (F0 m9 73 ls []) := by
  intro n
  induction n with
  | zero => intro σ τ x4 x5 x6 x7 x8 x9 r σ1 τ1 h; cases h
  | succ n ih =>
    intro σ τ x4 x5 x6 x7 x8 x9 r σ1 τ1 h H locs ls hw hl
    exact k_X11_ways_73 l S hr hlk hK N (H_X11_ways_73 N n) (fun σ τ x4 x5 x6 x7 x8 x9 r σ1 τ1 H locs ls h hw hl => ih σ τ x4 x5 x6 x7 x8 x9 r σ1 τ1 h H locs ls hw hl) σ τ x4 x5 x6 x7 x8 x9 h hw hl
set_option maxHeartbeats 4000000 in
set_option maxRecDepth 100000 in
theorem b_X11_ways_0 (l : Launch) (S : CallFix P9 m9 C9 cX11_ways 10 s av.toArray gx_G RX11) (hr : meth.sig.returnType = (some .int)) (hlk : meth.locks = false) (hK : gx_K E s) (N : Nat) (σ : gI) (τ : gJ) (x1 : Int32) (x2 : Int32) (x3 : Int32) (x4 : Int32) {r : Int32} {σ1 : gI} {τ1 : gJ} (h : B_X11_ways_0 N σ τ x1 x2 x3 x4 = some (r, σ1, τ1)) {H : Heap} {locs : List Loc} {ls : Array Slot} (hw : gx_W gx_tb gx_tb.length E s σ τ H locs) (hl : lv_has ls 10 [(0, .ref (E.2.2 + 0)), (1, .int x1), (2, .int x2), (3, .int x3), (4, .int x4)]) : W P9 l e9 (gx_rm 6) s m9 av.toArray below meth C9 H locs 0 0 (gq_Qi below av s E r σ1 τ1) (F0 m9 0 ls []) := by
  have hx := S.1
  have hb := S.2.1
  unfold B_X11_ways_0 at h
  refine lv_aload_n hx hb dX11_ways_0 rfl (lv_at hl 0 rfl) ?_
  refine gx_getr (j := 3) S hK hw t_0 cl_12 1 (by decide) rfl mw_448 rfl dX11_ways_1 ?_
  refine lv_iload_n hx hb dX11_ways_4 rfl (lv_at hl 1 rfl) ?_
  obtain ⟨r_1, σ_1, τ_1, q_1, h⟩ := bd_some h
  refine gx_cVi (As := [.int x1]) (rest := []) S hK gx_ok hw (c_X8_has l (E := E) N σ τ x1 q_1) cw_X11_137 t_3 cl_9 ⟨Nat.le_of_ble_eq_true rfl, Nat.le_of_ble_eq_true rfl⟩ rfl hl.1 rfl (Nat.le_of_ble_eq_true rfl) ⟨Nat.le_of_ble_eq_true rfl, Nat.le_of_ble_eq_true rfl⟩ dX11_ways_5 (fun r9 σ9 τ9 H locs hp hw => ?_)
  obtain ⟨rfl, rfl, rfl⟩ := hp
  refine lv_if_eq (tgt := 31) hx hb dX11_ways_8 (by decide) (fun c_2 => ?_) (fun c_2 => ?_)
  · rw [if_pos c_2] at h
    refine lv_iconst (v := (-1)) hx hb dX11_ways_31 (by decide) ?_
    obtain ⟨rfl, rfl, rfl⟩ := sm_inj h
    exact gx_ri (post := gq_p (-1) σ_1 τ_1) (v := (-1)) S hr hlk hw rfl dX11_ways_32 ⟨rfl, rfl, rfl⟩
  · rw [if_neg c_2] at h
    refine lv_iload_n hx hb dX11_ways_11 rfl (lv_at hl 2 rfl) ?_
    refine lv_iload_n hx hb dX11_ways_12 rfl (lv_at hl 3 rfl) ?_
    obtain ⟨r_3, σ_3, τ_3, q_3, h⟩ := bd_some h
    refine gx_cSi (As := [.int x2, .int x3]) (rest := []) S hK gx_ok hw (c_X11_isLoad l (E := E) N σ_1 τ_1 x2 x3 q_3) cw_X11_227 ⟨Nat.le_of_ble_eq_true rfl, Nat.le_of_ble_eq_true rfl⟩ rfl hl.1 rfl (Nat.le_of_ble_eq_true rfl) ⟨Nat.le_of_ble_eq_true rfl, Nat.le_of_ble_eq_true rfl⟩ dX11_ways_13 (fun r9 σ9 τ9 H locs hp hw => ?_)
    obtain ⟨rfl, rfl, rfl⟩ := hp
    refine lv_if_eq (tgt := 31) hx hb dX11_ways_16 (by decide) (fun c_4 => ?_) (fun c_4 => ?_)
    · rw [if_pos c_4] at h
      refine lv_iconst (v := (-1)) hx hb dX11_ways_31 (by decide) ?_
      obtain ⟨rfl, rfl, rfl⟩ := sm_inj h
      exact gx_ri (post := gq_p (-1) σ_3 τ_3) (v := (-1)) S hr hlk hw rfl dX11_ways_32 ⟨rfl, rfl, rfl⟩
    · rw [if_neg c_4] at h
      refine lv_aload_n hx hb dX11_ways_19 rfl (lv_at hl 0 rfl) ?_
      refine gx_getr (j := 3) S hK hw t_0 cl_12 1 (by decide) rfl mw_448 rfl dX11_ways_20 ?_
      refine lv_iload hx hb dX11_ways_23 (lv_at hl 4 rfl) ?_
      obtain ⟨r_5, σ_5, τ_5, q_5, h⟩ := bd_some h
      refine gx_cVi (As := [.int x4]) (rest := []) S hK gx_ok hw (c_X8_isKitchen l (E := E) N σ_3 τ_3 x4 q_5) cw_X11_234 t_3 cl_9 ⟨Nat.le_of_ble_eq_true rfl, Nat.le_of_ble_eq_true rfl⟩ rfl hl.1 rfl (Nat.le_of_ble_eq_true rfl) ⟨Nat.le_of_ble_eq_true rfl, Nat.le_of_ble_eq_true rfl⟩ dX11_ways_25 (fun r9 σ9 τ9 H locs hp hw => ?_)
      obtain ⟨rfl, rfl, rfl⟩ := hp
      refine lv_if_ne (tgt := 33) hx hb dX11_ways_28 (by decide) (fun c_6 => ?_) (fun c_6 => ?_)
      · rw [if_neg c_6] at h
        refine lv_aload_n hx hb dX11_ways_33 rfl (lv_at hl 0 rfl) ?_
        refine gx_getr (j := 160) S hK hw t_0 cl_12 15 (by decide) rfl mw_462 rfl dX11_ways_34 ?_
        refine lv_iload_n hx hb dX11_ways_37 rfl (lv_at hl 1 rfl) ?_
        refine lv_iload_n hx hb dX11_ways_38 rfl (lv_at hl 2 rfl) ?_
        refine lv_iload_n hx hb dX11_ways_39 rfl (lv_at hl 3 rfl) ?_
        refine lv_iconst (v := 0) hx hb dX11_ways_40 (by decide) ?_
        refine lv_aload_n hx hb dX11_ways_41 rfl (lv_at hl 0 rfl) ?_
        refine gx_getr (j := 30) S hK hw t_0 cl_12 7 (by decide) rfl mw_454 rfl dX11_ways_42 ?_
        refine gx_get S hK hw t_30 cl_7 8 (by decide) rfl mw_280 rfl dX11_ways_45 ?_
        obtain ⟨u_7, σ_7, τ_7, q_7, h⟩ := bd_some h
        refine gx_cVv (As := [.int x1, .int x2, .int x3, .int 0, .int (σ_5 30 8)]) (rest := []) S hK gx_ok hw (c_X9_thinkOf l (E := E) N σ_5 τ_5 x1 x2 x3 0 (σ_5 30 8) q_7) cw_X11_327 t_160 cl_10 ⟨Nat.le_of_ble_eq_true rfl, Nat.le_of_ble_eq_true rfl⟩ rfl hl.1 rfl (Nat.le_of_ble_eq_true rfl) ⟨Nat.le_of_ble_eq_true rfl, Nat.le_of_ble_eq_true rfl⟩ dX11_ways_48 (fun σ9 τ9 H locs hp hw => ?_)
        obtain ⟨rfl, rfl⟩ := hp
        refine lv_aload_n hx hb dX11_ways_51 rfl (lv_at hl 0 rfl) ?_
        refine gx_getr (j := 160) S hK hw t_0 cl_12 15 (by decide) rfl mw_462 rfl dX11_ways_52 ?_
        obtain ⟨u_8, σ_8, τ_8, q_8, h⟩ := bd_some h
        refine gx_cVv (As := []) (rest := []) S hK gx_ok hw (c_X9_forgetSets l (E := E) N σ_7 τ_7 q_8) cw_X11_350 t_160 cl_10 ⟨Nat.le_of_ble_eq_true rfl, Nat.le_of_ble_eq_true rfl⟩ rfl hl.1 rfl (Nat.le_of_ble_eq_true rfl) ⟨Nat.le_of_ble_eq_true rfl, Nat.le_of_ble_eq_true rfl⟩ dX11_ways_55 (fun σ9 τ9 H locs hp hw => ?_)
        obtain ⟨rfl, rfl⟩ := hp
        refine lv_iconst (v := 0) hx hb dX11_ways_58 (by decide) ?_
        refine lv_istore (lv' := [(5, .int 0), (0, .ref (E.2.2 + 0)), (1, .int x1), (2, .int x2), (3, .int x3), (4, .int x4)]) hx hb dX11_ways_59 hl (by decide) rfl (fun ls hl => ?_)
        refine lv_iconst (v := (-1)) hx hb dX11_ways_61 (by decide) ?_
        refine lv_istore (lv' := [(6, .int (-1)), (5, .int 0), (0, .ref (E.2.2 + 0)), (1, .int x1), (2, .int x2), (3, .int x3), (4, .int x4)]) hx hb dX11_ways_62 hl (by decide) rfl (fun ls hl => ?_)
        refine lv_iconst (v := (-1)) hx hb dX11_ways_64 (by decide) ?_
        refine lv_istore (lv' := [(7, .int (-1)), (6, .int (-1)), (5, .int 0), (0, .ref (E.2.2 + 0)), (1, .int x1), (2, .int x2), (3, .int x3), (4, .int x4)]) hx hb dX11_ways_65 hl (by decide) rfl (fun ls hl => ?_)
        refine lv_iconst (v := 0) hx hb dX11_ways_67 (by decide) ?_
        refine lv_istore (lv' := [(8, .int 0), (7, .int (-1)), (6, .int (-1)), (5, .int 0), (0, .ref (E.2.2 + 0)), (1, .int x1), (2, .int x2), (3, .int x3), (4, .int x4)]) hx hb dX11_ways_68 hl (by decide) rfl (fun ls hl => ?_)
        refine lv_iconst (v := 0) hx hb dX11_ways_70 (by decide) ?_
        refine lv_istore (lv' := [(9, .int 0), (8, .int 0), (7, .int (-1)), (6, .int (-1)), (5, .int 0), (0, .ref (E.2.2 + 0)), (1, .int x1), (2, .int x2), (3, .int x3), (4, .int x4)]) hx hb dX11_ways_71 hl (by decide) rfl (fun ls hl => ?_)
        exact h_X11_ways_73 l S hr hlk hK N N σ_8 τ_8 x4 0 (-1) (-1) 0 0 _ _ _ h _ _ _ hw (lv_sub hl [5, 9, 4, 3, 2, 1, 0] rfl)
      · rw [if_pos c_6] at h
        refine lv_iconst (v := (-1)) hx hb dX11_ways_31 (by decide) ?_
        obtain ⟨rfl, rfl, rfl⟩ := sm_inj h
        exact gx_ri (post := gq_p (-1) σ_5 τ_5) (v := (-1)) S hr hlk hw rfl dX11_ways_32 ⟨rfl, rfl, rfl⟩
set_option maxHeartbeats 4000000 in
set_option maxRecDepth 100000 in
theorem c_X11_ways (l : Launch) {E : gE} (N : Nat) (σ : gI) (τ : gJ) (x1 : Int32) (x2 : Int32) (x3 : Int32) (x4 : Int32) {r : Int32} {σ1 : gI} {τ1 : gJ} (h : B_X11_ways_0 N σ τ x1 x2 x3 x4 = some (r, σ1, τ1)) : gx_Mi l yX11_ways cX11_ways 10 (some .int) 6 gx_tb E σ τ [.ref (E.2.2 + 0), .int x1, .int x2, .int x3, .int x4] (gq_p r σ1 τ1) := by
  refine gx_bi (by decide +kernel) (Nat.le_of_ble_eq_true rfl) ?_
  intro P9 e9 s m9 below meth C9 S hr hlk hK hw ls hl
  have hl : lv_has ls 10 [(0, .ref (E.2.2 + 0)), (1, .int x1), (2, .int x2), (3, .int x3), (4, .int x4)] := hl
  exact b_X11_ways_0 l S hr hlk hK N σ τ x1 x2 x3 x4 h hw hl
/-! X11_where -/
def B_X11_where_0 (N : Nat) (σ : gI) (τ : gJ) (x1 : Int32) (x2 : Int32) : Option (Int32 × gI × gJ) := bd (B_X6_has_0 N 30 σ τ x1) fun r_1 σ_1 τ_1 => if r_1 = 0 then (some ((-1), σ_1, τ_1)) else (bd (B_X11_isAhead_0 N σ_1 τ_1 x2) fun r_3 σ_3 τ_3 => if r_3 = 0 then (some ((-1), σ_3, τ_3)) else (bd (B_X9_goOn_0 N σ_3 τ_3 x2) fun _ σ_5 τ_5 => bd (B_X6_fateOf_0 N 171 σ_5 τ_5 x1) fun r_6 σ_6 τ_6 => bd (B_X6_paperOf_0 N 171 σ_6 τ_6 x1) fun r_7 σ_7 τ_7 => bd (B_X6_purseOf_0 N 171 σ_7 τ_7 x1) fun r_8 σ_8 τ_8 => bd (B_X4_tell___0 N σ_8 τ_8 r_6.toInt64 r_7.toInt64 r_8.toInt64) fun _ σ_9 τ_9 => bd (B_X6_spotOf_0 N 171 σ_9 τ_9 x1) fun r_10 σ_10 τ_10 => some (r_10, σ_10, τ_10)))
set_option maxHeartbeats 4000000 in
set_option maxRecDepth 100000 in
theorem b_X11_where_0 (l : Launch) (S : CallFix P9 m9 C9 cX11_where 4 s av.toArray gx_G RX11) (hr : meth.sig.returnType = (some .int)) (hlk : meth.locks = false) (hK : gx_K E s) (N : Nat) (σ : gI) (τ : gJ) (x1 : Int32) (x2 : Int32) {r : Int32} {σ1 : gI} {τ1 : gJ} (h : B_X11_where_0 N σ τ x1 x2 = some (r, σ1, τ1)) {H : Heap} {locs : List Loc} {ls : Array Slot} (hw : gx_W gx_tb gx_tb.length E s σ τ H locs) (hl : lv_has ls 4 [(0, .ref (E.2.2 + 0)), (1, .int x1), (2, .int x2)]) : W P9 l e9 (gx_rm 5) s m9 av.toArray below meth C9 H locs 0 0 (gq_Qi below av s E r σ1 τ1) (F0 m9 0 ls []) := by
  have hx := S.1
  have hb := S.2.1
  unfold B_X11_where_0 at h
  refine lv_aload_n hx hb dX11_where_0 rfl (lv_at hl 0 rfl) ?_
  refine gx_getr (j := 30) S hK hw t_0 cl_12 7 (by decide) rfl mw_454 rfl dX11_where_1 ?_
  refine lv_iload_n hx hb dX11_where_4 rfl (lv_at hl 1 rfl) ?_
  obtain ⟨r_1, σ_1, τ_1, q_1, h⟩ := bd_some h
  refine gx_cVi (As := [.int x1]) (rest := []) S hK gx_ok hw (c_X6_has l (E := E) N 30 is_30 σ τ x1 q_1) cw_X11_172 t_30 cl_7 ⟨Nat.le_of_ble_eq_true rfl, Nat.le_of_ble_eq_true rfl⟩ rfl hl.1 rfl (Nat.le_of_ble_eq_true rfl) ⟨Nat.le_of_ble_eq_true rfl, Nat.le_of_ble_eq_true rfl⟩ dX11_where_5 (fun r9 σ9 τ9 H locs hp hw => ?_)
  obtain ⟨rfl, rfl, rfl⟩ := hp
  refine lv_if_eq (tgt := 18) hx hb dX11_where_8 (by decide) (fun c_2 => ?_) (fun c_2 => ?_)
  · rw [if_pos c_2] at h
    refine lv_iconst (v := (-1)) hx hb dX11_where_18 (by decide) ?_
    obtain ⟨rfl, rfl, rfl⟩ := sm_inj h
    exact gx_ri (post := gq_p (-1) σ_1 τ_1) (v := (-1)) S hr hlk hw rfl dX11_where_19 ⟨rfl, rfl, rfl⟩
  · rw [if_neg c_2] at h
    refine lv_iload_n hx hb dX11_where_11 rfl (lv_at hl 2 rfl) ?_
    obtain ⟨r_3, σ_3, τ_3, q_3, h⟩ := bd_some h
    refine gx_cSi (As := [.int x2]) (rest := []) S hK gx_ok hw (c_X11_isAhead l (E := E) N σ_1 τ_1 x2 q_3) cw_X11_290 ⟨Nat.le_of_ble_eq_true rfl, Nat.le_of_ble_eq_true rfl⟩ rfl hl.1 rfl (Nat.le_of_ble_eq_true rfl) ⟨Nat.le_of_ble_eq_true rfl, Nat.le_of_ble_eq_true rfl⟩ dX11_where_12 (fun r9 σ9 τ9 H locs hp hw => ?_)
    obtain ⟨rfl, rfl, rfl⟩ := hp
    refine lv_if_ne (tgt := 20) hx hb dX11_where_15 (by decide) (fun c_4 => ?_) (fun c_4 => ?_)
    · rw [if_neg c_4] at h
      refine lv_aload_n hx hb dX11_where_20 rfl (lv_at hl 0 rfl) ?_
      refine gx_getr (j := 160) S hK hw t_0 cl_12 15 (by decide) rfl mw_462 rfl dX11_where_21 ?_
      refine lv_aload_n hx hb dX11_where_24 rfl (lv_at hl 0 rfl) ?_
      refine gx_getr (j := 30) S hK hw t_0 cl_12 7 (by decide) rfl mw_454 rfl dX11_where_25 ?_
      refine lv_iload_n hx hb dX11_where_28 rfl (lv_at hl 2 rfl) ?_
      obtain ⟨u_5, σ_5, τ_5, q_5, h⟩ := bd_some h
      refine gx_cVv (As := [.ref (E.2.2 + 30), .int x2]) (rest := []) S hK gx_ok hw (c_X9_goOn l (E := E) N σ_3 τ_3 x2 q_5) cw_X11_293 t_160 cl_10 ⟨Nat.le_of_ble_eq_true rfl, Nat.le_of_ble_eq_true rfl⟩ rfl hl.1 rfl (Nat.le_of_ble_eq_true rfl) ⟨Nat.le_of_ble_eq_true rfl, Nat.le_of_ble_eq_true rfl⟩ dX11_where_29 (fun σ9 τ9 H locs hp hw => ?_)
      obtain ⟨rfl, rfl⟩ := hp
      refine lv_aload_n hx hb dX11_where_32 rfl (lv_at hl 0 rfl) ?_
      refine gx_getr (j := 160) S hK hw t_0 cl_12 15 (by decide) rfl mw_462 rfl dX11_where_33 ?_
      refine gx_getr (j := 171) S hK hw t_160 cl_10 8 (by decide) rfl mw_426 rfl dX11_where_36 ?_
      refine lv_astore_n (lv' := [(3, .ref (E.2.2 + 171)), (0, .ref (E.2.2 + 0)), (1, .int x1), (2, .int x2)]) hx hb dX11_where_39 rfl hl (by decide) rfl (fun ls hl => ?_)
      refine lv_aload_n hx hb dX11_where_40 rfl (lv_at hl 1 rfl) ?_
      refine gx_getr (j := 156) S hK hw t_0 cl_12 13 (by decide) rfl mw_460 rfl dX11_where_41 ?_
      refine lv_aload_n hx hb dX11_where_44 rfl (lv_at hl 0 rfl) ?_
      refine lv_iload_n hx hb dX11_where_45 rfl (lv_at hl 2 rfl) ?_
      obtain ⟨r_6, σ_6, τ_6, q_6, h⟩ := bd_some h
      refine gx_cVi (As := [.int x1]) (rest := [.ref (E.2.2 + 156)]) S hK gx_ok hw (c_X6_fateOf l (E := E) N 171 is_171 σ_5 τ_5 x1 q_6) cw_X11_187 t_171 cl_7 ⟨Nat.le_of_ble_eq_true rfl, Nat.le_of_ble_eq_true rfl⟩ rfl hl.1 rfl (Nat.le_of_ble_eq_true rfl) ⟨Nat.le_of_ble_eq_true rfl, Nat.le_of_ble_eq_true rfl⟩ dX11_where_46 (fun r9 σ9 τ9 H locs hp hw => ?_)
      obtain ⟨rfl, rfl, rfl⟩ := hp
      refine lv_i2l (v := r_6.toInt64) hx hb dX11_where_49 rfl ?_
      refine lv_aload_n hx hb dX11_where_50 rfl (lv_at hl 0 rfl) ?_
      refine lv_iload_n hx hb dX11_where_51 rfl (lv_at hl 2 rfl) ?_
      obtain ⟨r_7, σ_7, τ_7, q_7, h⟩ := bd_some h
      refine gx_cVi (As := [.int x1]) (rest := [.long r_6.toInt64, .ref (E.2.2 + 156)]) S hK gx_ok hw (c_X6_paperOf l (E := E) N 171 is_171 σ_6 τ_6 x1 q_7) cw_X11_178 t_171 cl_7 ⟨Nat.le_of_ble_eq_true rfl, Nat.le_of_ble_eq_true rfl⟩ rfl hl.1 rfl (Nat.le_of_ble_eq_true rfl) ⟨Nat.le_of_ble_eq_true rfl, Nat.le_of_ble_eq_true rfl⟩ dX11_where_52 (fun r9 σ9 τ9 H locs hp hw => ?_)
      obtain ⟨rfl, rfl, rfl⟩ := hp
      refine lv_i2l (v := r_7.toInt64) hx hb dX11_where_55 rfl ?_
      refine lv_aload_n hx hb dX11_where_56 rfl (lv_at hl 0 rfl) ?_
      refine lv_iload_n hx hb dX11_where_57 rfl (lv_at hl 2 rfl) ?_
      obtain ⟨r_8, σ_8, τ_8, q_8, h⟩ := bd_some h
      refine gx_cVi (As := [.int x1]) (rest := [.long r_7.toInt64, .long r_6.toInt64, .ref (E.2.2 + 156)]) S hK gx_ok hw (c_X6_purseOf l (E := E) N 171 is_171 σ_7 τ_7 x1 q_8) cw_X11_181 t_171 cl_7 ⟨Nat.le_of_ble_eq_true rfl, Nat.le_of_ble_eq_true rfl⟩ rfl hl.1 rfl (Nat.le_of_ble_eq_true rfl) ⟨Nat.le_of_ble_eq_true rfl, Nat.le_of_ble_eq_true rfl⟩ dX11_where_58 (fun r9 σ9 τ9 H locs hp hw => ?_)
      obtain ⟨rfl, rfl, rfl⟩ := hp
      refine lv_i2l (v := r_8.toInt64) hx hb dX11_where_61 rfl ?_
      obtain ⟨u_9, σ_9, τ_9, q_9, h⟩ := bd_some h
      refine gx_cVv (As := [.long r_6.toInt64, .long r_7.toInt64, .long r_8.toInt64]) (rest := []) S hK gx_ok hw (c_X4_tell__ l (E := E) N σ_8 τ_8 r_6.toInt64 r_7.toInt64 r_8.toInt64 q_9) cw_X11_300 t_156 cl_5 ⟨Nat.le_of_ble_eq_true rfl, Nat.le_of_ble_eq_true rfl⟩ rfl hl.1 rfl (Nat.le_of_ble_eq_true rfl) ⟨Nat.le_of_ble_eq_true rfl, Nat.le_of_ble_eq_true rfl⟩ dX11_where_62 (fun σ9 τ9 H locs hp hw => ?_)
      obtain ⟨rfl, rfl⟩ := hp
      refine lv_aload_n hx hb dX11_where_65 rfl (lv_at hl 0 rfl) ?_
      refine lv_iload_n hx hb dX11_where_66 rfl (lv_at hl 2 rfl) ?_
      obtain ⟨r_10, σ_10, τ_10, q_10, h⟩ := bd_some h
      refine gx_cVi (As := [.int x1]) (rest := []) S hK gx_ok hw (c_X6_spotOf l (E := E) N 171 is_171 σ_9 τ_9 x1 q_10) cw_X11_175 t_171 cl_7 ⟨Nat.le_of_ble_eq_true rfl, Nat.le_of_ble_eq_true rfl⟩ rfl hl.1 rfl (Nat.le_of_ble_eq_true rfl) ⟨Nat.le_of_ble_eq_true rfl, Nat.le_of_ble_eq_true rfl⟩ dX11_where_67 (fun r9 σ9 τ9 H locs hp hw => ?_)
      obtain ⟨rfl, rfl, rfl⟩ := hp
      obtain ⟨rfl, rfl, rfl⟩ := sm_inj h
      exact gx_ri (post := gq_p r_10 σ_10 τ_10) (v := r_10) S hr hlk hw rfl dX11_where_70 ⟨rfl, rfl, rfl⟩
    · rw [if_pos c_4] at h
      refine lv_iconst (v := (-1)) hx hb dX11_where_18 (by decide) ?_
      obtain ⟨rfl, rfl, rfl⟩ := sm_inj h
      exact gx_ri (post := gq_p (-1) σ_3 τ_3) (v := (-1)) S hr hlk hw rfl dX11_where_19 ⟨rfl, rfl, rfl⟩
set_option maxHeartbeats 4000000 in
set_option maxRecDepth 100000 in
theorem c_X11_where (l : Launch) {E : gE} (N : Nat) (σ : gI) (τ : gJ) (x1 : Int32) (x2 : Int32) {r : Int32} {σ1 : gI} {τ1 : gJ} (h : B_X11_where_0 N σ τ x1 x2 = some (r, σ1, τ1)) : gx_Mi l yX11_where cX11_where 4 (some .int) 5 gx_tb E σ τ [.ref (E.2.2 + 0), .int x1, .int x2] (gq_p r σ1 τ1) := by
  refine gx_bi (by decide +kernel) (Nat.le_of_ble_eq_true rfl) ?_
  intro P9 e9 s m9 below meth C9 S hr hlk hK hw ls hl
  have hl : lv_has ls 4 [(0, .ref (E.2.2 + 0)), (1, .int x1), (2, .int x2)] := hl
  exact b_X11_where_0 l S hr hlk hK N σ τ x1 x2 h hw hl
/-! X12_adds -/
def C_X12_adds_21 (N : Nat) (rec_21 : gI → gJ → Int32 → Int32 → Option (Int32 × gI × gJ)) (σ : gI) (τ : gJ) (x1 : Int32) (x2 : Int32) : Option (Int32 × gI × gJ) := if 675 ≤ x2 then (nm (up2 σ 199 36 ((σ 199 36) - 1)) fun σ_2 => some (x1, σ_2, τ)) else (ck (x2 + 45) 720 fun j_3 => ck x2 720 fun j_4 => nm (up2 σ 219 j_4 (σ 219 j_3)) fun σ_5 => nm (x2 + 1) fun v_6 => rec_21 σ_5 τ x1 v_6)
def H_X12_adds_21 (N : Nat) : Nat → gI → gJ → Int32 → Int32 → Option (Int32 × gI × gJ) := itn (fun rec_21 => C_X12_adds_21 N rec_21) (fun _ _ _ _ => none)
def B_X12_adds_0 (N : Nat) (σ : gI) (τ : gJ) (x1 : Int32) : Option (Int32 × gI × gJ) := nm (up2 σ 199 36 ((σ 199 36) + 1)) fun σ_1 => if σ_1 199 36 ≤ 15 then (some (x1, σ_1, τ)) else (H_X12_adds_21 N N σ_1 τ x1 0)
set_option maxHeartbeats 4000000 in
set_option maxRecDepth 100000 in
theorem k_X12_adds_21 (l : Launch) (S : CallFix P9 m9 C9 cX12_adds 3 s av.toArray gx_G RX12) (hr : meth.sig.returnType = (some .int)) (hlk : meth.locks = false) (hK : gx_K E s) (N : Nat) (rec_21 : gI → gJ → Int32 → Int32 → Option (Int32 × gI × gJ)) (hrec_21 : ∀ (σ : gI) (τ : gJ) (x1 : Int32) (x2 : Int32) (r : Int32) (σ1 : gI) (τ1 : gJ) (H : Heap) (locs : List Loc) (ls : Array Slot), rec_21 σ τ x1 x2 = some (r, σ1, τ1) → gx_W gx_tb gx_tb.length E s σ τ H locs → lv_has ls 3 [(0, .ref (E.2.2 + 199)), (1, .int x1), (2, .int x2)] → W P9 l e9 (gx_rm 0) s m9 av.toArray below meth C9 H locs 0 0 (gq_Qi below av s E r σ1 τ1) (F0 m9 21 ls [])) (σ : gI) (τ : gJ) (x1 : Int32) (x2 : Int32) {r : Int32} {σ1 : gI} {τ1 : gJ} (h : C_X12_adds_21 N rec_21 σ τ x1 x2 = some (r, σ1, τ1)) {H : Heap} {locs : List Loc} {ls : Array Slot} (hw : gx_W gx_tb gx_tb.length E s σ τ H locs) (hl : lv_has ls 3 [(0, .ref (E.2.2 + 199)), (1, .int x1), (2, .int x2)]) : W P9 l e9 (gx_rm 0) s m9 av.toArray below meth C9 H locs 0 0 (gq_Qi below av s E r σ1 τ1) (F0 m9 21 ls []) := by
  have hx := S.1
  have hb := S.2.1
  unfold C_X12_adds_21 at h
  refine lv_iload_n hx hb dX12_adds_21 rfl (lv_at hl 2 rfl) ?_
  refine lv_sipush (v := 675) hx hb dX12_adds_22 (by decide) ?_
  refine lv_icmp_ge (tgt := 49) hx hb dX12_adds_25 (by decide) (fun c_1 => ?_) (fun c_1 => ?_)
  · rw [if_pos c_1] at h
    refine lv_aload_n hx hb dX12_adds_49 rfl (lv_at hl 0 rfl) ?_
    refine lv_dup hx hb dX12_adds_50 rfl ?_
    refine gx_get S hK hw t_199 cl_13 36 (by decide) rfl mw_1450 rfl dX12_adds_51 ?_
    refine lv_iconst (v := 1) hx hb dX12_adds_54 (by decide) ?_
    refine lv_isub hx hb dX12_adds_55 ?_
    refine gx_put S hK gx_ok hw t_199 cl_13 36 (by decide) rfl mw_1450 rfl rfl (ty := .int) (v := (σ 199 36) - 1) (by decide +kernel) rfl rfl dX12_adds_56 (fun H locs hw => ?_)
    obtain ⟨σ_2, e_2, h⟩ := nm_some h
    rw [← e_2] at hw
    refine lv_iload_n hx hb dX12_adds_59 rfl (lv_at hl 1 rfl) ?_
    obtain ⟨rfl, rfl, rfl⟩ := sm_inj h
    exact gx_ri (post := gq_p x1 σ_2 τ) (v := x1) S hr hlk hw rfl dX12_adds_60 ⟨rfl, rfl, rfl⟩
  · rw [if_neg c_1] at h
    refine lv_aload_n hx hb dX12_adds_28 rfl (lv_at hl 0 rfl) ?_
    refine gx_getr (j := 219) S hK hw t_199 cl_13 37 (by decide) rfl mw_1451 rfl dX12_adds_29 ?_
    refine lv_iload_n hx hb dX12_adds_32 rfl (lv_at hl 2 rfl) ?_
    refine lv_aload_n hx hb dX12_adds_33 rfl (lv_at hl 0 rfl) ?_
    refine gx_getr (j := 219) S hK hw t_199 cl_13 37 (by decide) rfl mw_1451 rfl dX12_adds_34 ?_
    refine lv_iload_n hx hb dX12_adds_37 rfl (lv_at hl 2 rfl) ?_
    refine lv_bipush (v := 45) hx hb dX12_adds_38 (by decide) ?_
    refine lv_iadd hx hb dX12_adds_40 ?_
    obtain ⟨j_3, hj_3, hi_3, h⟩ := ck_some h
    refine gx_iald S hK hw t_219 j_3 hj_3 hi_3 dX12_adds_41 ?_
    obtain ⟨j_4, hj_4, hi_4, h⟩ := ck_some h
    refine gx_iast S hK gx_ok hw t_219 j_4 hj_4 hi_4 dX12_adds_42 (fun H locs hw => ?_)
    obtain ⟨σ_5, e_5, h⟩ := nm_some h
    rw [← e_5] at hw
    refine lv_iinc (v := x2 + 1) (lv' := [(2, .int (x2 + 1)), (0, .ref (E.2.2 + 199)), (1, .int x1)]) hx hb dX12_adds_43 hl (k := 2) rfl rfl (by decide) rfl (fun ls hl => ?_)
    obtain ⟨v_6, e_6, h⟩ := nm_some h
    have hl : lv_has ls 3 [(2, .int v_6), (0, .ref (E.2.2 + 199)), (1, .int x1)] := by rw [e_6]; exact hl
    refine lv_goto (tgt := 21) hx hb dX12_adds_46 (by decide) ?_
    exact hrec_21 σ_5 τ x1 v_6 _ _ _ _ _ _ h hw (lv_sub hl [1, 2, 0] rfl)
set_option maxHeartbeats 4000000 in
set_option maxRecDepth 100000 in
theorem h_X12_adds_21 (l : Launch) (S : CallFix P9 m9 C9 cX12_adds 3 s av.toArray gx_G RX12) (hr : meth.sig.returnType = (some .int)) (hlk : meth.locks = false) (hK : gx_K E s) (N : Nat) : ∀ (n : Nat) (σ : gI) (τ : gJ) (x1 : Int32) (x2 : Int32) (r : Int32) (σ1 : gI) (τ1 : gJ), H_X12_adds_21 N n σ τ x1 x2 = some (r, σ1, τ1) → ∀ (H : Heap) (locs : List Loc) (ls : Array Slot), gx_W gx_tb gx_tb.length E s σ τ H locs → lv_has ls 3 [(0, .ref (E.2.2 + 199)), (1, .int x1), (2, .int x2)] → W P9 l e9 (gx_rm 0) s m9 av.toArray below meth C9 H locs 0 0 (gq_Qi below av s E r σ1 τ1) (F0 m9 21 ls []) := by
  intro n
  induction n with
  | zero => intro σ τ x1 x2 r σ1 τ1 h; cases h
  | succ n ih =>
    intro σ τ x1 x2 r σ1 τ1 h H locs ls hw hl
    exact k_X12_adds_21 l S hr hlk hK N (H_X12_adds_21 N n) (fun σ τ x1 x2 r σ1 τ1 H locs ls h hw hl => ih σ τ x1 x2 r σ1 τ1 h H locs ls hw hl) σ τ x1 x2 h hw hl
set_option maxHeartbeats 4000000 in
set_option maxRecDepth 100000 in
theorem b_X12_adds_0 (l : Launch) (S : CallFix P9 m9 C9 cX12_adds 3 s av.toArray gx_G RX12) (hr : meth.sig.returnType = (some .int)) (hlk : meth.locks = false) (hK : gx_K E s) (N : Nat) (σ : gI) (τ : gJ) (x1 : Int32) {r : Int32} {σ1 : gI} {τ1 : gJ} (h : B_X12_adds_0 N σ τ x1 = some (r, σ1, τ1)) {H : Heap} {locs : List Loc} {ls : Array Slot} (hw : gx_W gx_tb gx_tb.length E s σ τ H locs) (hl : lv_has ls 3 [(0, .ref (E.2.2 + 199)), (1, .int x1)]) : W P9 l e9 (gx_rm 0) s m9 av.toArray below meth C9 H locs 0 0 (gq_Qi below av s E r σ1 τ1) (F0 m9 0 ls []) := by
  have hx := S.1
  have hb := S.2.1
  unfold B_X12_adds_0 at h
  refine lv_aload_n hx hb dX12_adds_0 rfl (lv_at hl 0 rfl) ?_
  refine lv_dup hx hb dX12_adds_1 rfl ?_
  refine gx_get S hK hw t_199 cl_13 36 (by decide) rfl mw_1450 rfl dX12_adds_2 ?_
  refine lv_iconst (v := 1) hx hb dX12_adds_5 (by decide) ?_
  refine lv_iadd hx hb dX12_adds_6 ?_
  refine gx_put S hK gx_ok hw t_199 cl_13 36 (by decide) rfl mw_1450 rfl rfl (ty := .int) (v := (σ 199 36) + 1) (by decide +kernel) rfl rfl dX12_adds_7 (fun H locs hw => ?_)
  obtain ⟨σ_1, e_1, h⟩ := nm_some h
  rw [← e_1] at hw
  refine lv_aload_n hx hb dX12_adds_10 rfl (lv_at hl 0 rfl) ?_
  refine gx_get S hK hw t_199 cl_13 36 (by decide) rfl mw_1450 rfl dX12_adds_11 ?_
  refine lv_bipush (v := 15) hx hb dX12_adds_14 (by decide) ?_
  refine lv_icmp_le (tgt := 59) hx hb dX12_adds_16 (by decide) (fun c_2 => ?_) (fun c_2 => ?_)
  · rw [if_pos c_2] at h
    refine lv_iload_n hx hb dX12_adds_59 rfl (lv_at hl 1 rfl) ?_
    obtain ⟨rfl, rfl, rfl⟩ := sm_inj h
    exact gx_ri (post := gq_p x1 σ_1 τ) (v := x1) S hr hlk hw rfl dX12_adds_60 ⟨rfl, rfl, rfl⟩
  · rw [if_neg c_2] at h
    refine lv_iconst (v := 0) hx hb dX12_adds_19 (by decide) ?_
    refine lv_istore_n (lv' := [(2, .int 0), (0, .ref (E.2.2 + 199)), (1, .int x1)]) hx hb dX12_adds_20 rfl hl (by decide) rfl (fun ls hl => ?_)
    exact h_X12_adds_21 l S hr hlk hK N N σ_1 τ x1 0 _ _ _ h _ _ _ hw (lv_sub hl [1, 2, 0] rfl)
set_option maxHeartbeats 4000000 in
set_option maxRecDepth 100000 in
theorem c_X12_adds (l : Launch) {E : gE} (N : Nat) (σ : gI) (τ : gJ) (x1 : Int32) {r : Int32} {σ1 : gI} {τ1 : gJ} (h : B_X12_adds_0 N σ τ x1 = some (r, σ1, τ1)) : gx_Mi l yX12_adds cX12_adds 3 (some .int) 0 gx_tb E σ τ [.ref (E.2.2 + 199), .int x1] (gq_p r σ1 τ1) := by
  refine gx_bi (by decide +kernel) (Nat.le_of_ble_eq_true rfl) ?_
  intro P9 e9 s m9 below meth C9 S hr hlk hK hw ls hl
  have hl : lv_has ls 3 [(0, .ref (E.2.2 + 199)), (1, .int x1)] := hl
  exact b_X12_adds_0 l S hr hlk hK N σ τ x1 h hw hl
/-! X12_in -/
def B_X12_in_0 (N : Nat) (σ : gI) (τ : gJ) (x0 : Int64) (x2 : Int64) (x4 : Int64) : Option (Int32 × gI × gJ) := if lg_cmp x0 x2 < 0 then (some (0, σ, τ)) else (if 0 < lg_cmp x0 x4 then (some (0, σ, τ)) else (some (1, σ, τ)))
set_option maxHeartbeats 4000000 in
set_option maxRecDepth 100000 in
theorem b_X12_in_0 (l : Launch) (S : CallFix P9 m9 C9 cX12_in 6 s av.toArray gx_G RX12) (hr : meth.sig.returnType = (some .boolean)) (hlk : meth.locks = false) (hK : gx_K E s) (N : Nat) (σ : gI) (τ : gJ) (x0 : Int64) (x2 : Int64) (x4 : Int64) {r : Int32} {σ1 : gI} {τ1 : gJ} (h : B_X12_in_0 N σ τ x0 x2 x4 = some (r, σ1, τ1)) {H : Heap} {locs : List Loc} {ls : Array Slot} (hw : gx_W gx_tb gx_tb.length E s σ τ H locs) (hl : lv_has ls 6 [(0, .long x0), (2, .long x2), (4, .long x4)]) : W P9 l e9 (gx_rm 0) s m9 av.toArray below meth C9 H locs 0 0 (gq_Qi below av s E r σ1 τ1) (F0 m9 0 ls []) := by
  have hx := S.1
  have hb := S.2.1
  unfold B_X12_in_0 at h
  refine lv_lload_n hx hb dX12_in_0 rfl (lv_at hl 0 rfl) ?_
  refine lv_lload_n hx hb dX12_in_1 rfl (lv_at hl 1 rfl) ?_
  refine W.lcmp hx hb dX12_in_2 ?_
  refine lv_if_lt (tgt := 17) hx hb dX12_in_3 (by decide) (fun c_1 => ?_) (fun c_1 => ?_)
  · rw [if_pos c_1] at h
    refine lv_iconst (v := 0) hx hb dX12_in_17 (by decide) ?_
    obtain ⟨rfl, rfl, rfl⟩ := sm_inj h
    exact gx_ri (post := gq_p 0 σ τ) (v := 0) S hr hlk hw rfl dX12_in_18 ⟨rfl, rfl, rfl⟩
  · rw [if_neg c_1] at h
    refine lv_lload_n hx hb dX12_in_6 rfl (lv_at hl 0 rfl) ?_
    refine lv_lload hx hb dX12_in_7 (lv_at hl 2 rfl) ?_
    refine W.lcmp hx hb dX12_in_9 ?_
    refine lv_if_gt (tgt := 17) hx hb dX12_in_10 (by decide) (fun c_2 => ?_) (fun c_2 => ?_)
    · rw [if_pos c_2] at h
      refine lv_iconst (v := 0) hx hb dX12_in_17 (by decide) ?_
      obtain ⟨rfl, rfl, rfl⟩ := sm_inj h
      exact gx_ri (post := gq_p 0 σ τ) (v := 0) S hr hlk hw rfl dX12_in_18 ⟨rfl, rfl, rfl⟩
    · rw [if_neg c_2] at h
      refine lv_iconst (v := 1) hx hb dX12_in_13 (by decide) ?_
      refine lv_goto (tgt := 18) hx hb dX12_in_14 (by decide) ?_
      obtain ⟨rfl, rfl, rfl⟩ := sm_inj h
      exact gx_ri (post := gq_p 1 σ τ) (v := 1) S hr hlk hw rfl dX12_in_18 ⟨rfl, rfl, rfl⟩
set_option maxHeartbeats 4000000 in
set_option maxRecDepth 100000 in
theorem c_X12_in (l : Launch) {E : gE} (N : Nat) (σ : gI) (τ : gJ) (x0 : Int64) (x2 : Int64) (x4 : Int64) {r : Int32} {σ1 : gI} {τ1 : gJ} (h : B_X12_in_0 N σ τ x0 x2 x4 = some (r, σ1, τ1)) : gx_Mi l yX12_in cX12_in 6 (some .boolean) 0 gx_tb E σ τ [.long x0, .long x2, .long x4] (gq_p r σ1 τ1) := by
  refine gx_bi (by decide +kernel) (Nat.le_of_ble_eq_true rfl) ?_
  intro P9 e9 s m9 below meth C9 S hr hlk hK hw ls hl
  have hl : lv_has ls 6 [(0, .long x0), (2, .long x2), (4, .long x4)] := hl
  exact b_X12_in_0 l S hr hlk hK N σ τ x0 x2 x4 h hw hl
/-! X12_again -/
def C_X12_again_30 (N : Nat) (rec_30 : gI → gJ → Int32 → Int32 → Option (Int32 × gI × gJ)) (σ : gI) (τ : gJ) (x1 : Int32) (x2 : Int32) : Option (Int32 × gI × gJ) := if 45 ≤ x2 then (nm (up2 σ 199 36 0) fun σ_2 => some (1, σ_2, τ)) else (ck ((45 * x1) + x2) 135 fun j_3 => ck x2 45 fun j_4 => nm (up2 σ 206 j_4 (σ 232 j_3)) fun σ_5 => nm (x2 + 1) fun v_6 => rec_30 σ_5 τ x1 v_6)
def H_X12_again_30 (N : Nat) : Nat → gI → gJ → Int32 → Int32 → Option (Int32 × gI × gJ) := itn (fun rec_30 => C_X12_again_30 N rec_30) (fun _ _ _ _ => none)
def B_X12_again_0 (N : Nat) (σ : gI) (τ : gJ) (x1 : Int32) : Option (Int32 × gI × gJ) := nm (up2 σ 199 0 0) fun σ_1 => bd (B_X12_in_0 N σ_1 τ x1.toInt64 0 2) fun r_2 σ_2 τ_2 => if r_2 = 0 then (some (0, σ_2, τ_2)) else (ck x1 3 fun j_4 => if σ_2 231 j_4 = 0 then (some (0, σ_2, τ_2)) else (H_X12_again_30 N N σ_2 τ_2 x1 0))
set_option maxHeartbeats 4000000 in
set_option maxRecDepth 100000 in
theorem k_X12_again_30 (l : Launch) (S : CallFix P9 m9 C9 cX12_again 3 s av.toArray gx_G RX12) (hr : meth.sig.returnType = (some .boolean)) (hlk : meth.locks = false) (hK : gx_K E s) (N : Nat) (rec_30 : gI → gJ → Int32 → Int32 → Option (Int32 × gI × gJ)) (hrec_30 : ∀ (σ : gI) (τ : gJ) (x1 : Int32) (x2 : Int32) (r : Int32) (σ1 : gI) (τ1 : gJ) (H : Heap) (locs : List Loc) (ls : Array Slot), rec_30 σ τ x1 x2 = some (r, σ1, τ1) → gx_W gx_tb gx_tb.length E s σ τ H locs → lv_has ls 3 [(0, .ref (E.2.2 + 199)), (1, .int x1), (2, .int x2)] → W P9 l e9 (gx_rm 1) s m9 av.toArray below meth C9 H locs 0 0 (gq_Qi below av s E r σ1 τ1) (F0 m9 30 ls [])) (σ : gI) (τ : gJ) (x1 : Int32) (x2 : Int32) {r : Int32} {σ1 : gI} {τ1 : gJ} (h : C_X12_again_30 N rec_30 σ τ x1 x2 = some (r, σ1, τ1)) {H : Heap} {locs : List Loc} {ls : Array Slot} (hw : gx_W gx_tb gx_tb.length E s σ τ H locs) (hl : lv_has ls 3 [(0, .ref (E.2.2 + 199)), (1, .int x1), (2, .int x2)]) : W P9 l e9 (gx_rm 1) s m9 av.toArray below meth C9 H locs 0 0 (gq_Qi below av s E r σ1 τ1) (F0 m9 30 ls []) := by
  have hx := S.1
  have hb := S.2.1
  unfold C_X12_again_30 at h
  refine lv_iload_n hx hb dX12_again_30 rfl (lv_at hl 2 rfl) ?_
  refine lv_bipush (v := 45) hx hb dX12_again_31 (by decide) ?_
  refine lv_icmp_ge (tgt := 59) hx hb dX12_again_33 (by decide) (fun c_1 => ?_) (fun c_1 => ?_)
  · rw [if_pos c_1] at h
    refine lv_aload_n hx hb dX12_again_59 rfl (lv_at hl 0 rfl) ?_
    refine lv_iconst (v := 0) hx hb dX12_again_60 (by decide) ?_
    refine gx_put S hK gx_ok hw t_199 cl_13 36 (by decide) rfl mw_1450 rfl rfl (ty := .int) (v := 0) (by decide +kernel) rfl rfl dX12_again_61 (fun H locs hw => ?_)
    obtain ⟨σ_2, e_2, h⟩ := nm_some h
    rw [← e_2] at hw
    refine lv_iconst (v := 1) hx hb dX12_again_64 (by decide) ?_
    obtain ⟨rfl, rfl, rfl⟩ := sm_inj h
    exact gx_ri (post := gq_p 1 σ_2 τ) (v := 1) S hr hlk hw rfl dX12_again_65 ⟨rfl, rfl, rfl⟩
  · rw [if_neg c_1] at h
    refine lv_aload_n hx hb dX12_again_36 rfl (lv_at hl 0 rfl) ?_
    refine gx_getr (j := 206) S hK hw t_199 cl_13 10 (by decide) rfl mw_1424 rfl dX12_again_37 ?_
    refine lv_iload_n hx hb dX12_again_40 rfl (lv_at hl 2 rfl) ?_
    refine lv_aload_n hx hb dX12_again_41 rfl (lv_at hl 0 rfl) ?_
    refine gx_getr (j := 232) S hK hw t_199 cl_13 59 (by decide) rfl mw_1473 rfl dX12_again_42 ?_
    refine lv_bipush (v := 45) hx hb dX12_again_45 (by decide) ?_
    refine lv_iload_n hx hb dX12_again_47 rfl (lv_at hl 1 rfl) ?_
    refine lv_imul hx hb dX12_again_48 ?_
    refine lv_iload_n hx hb dX12_again_49 rfl (lv_at hl 2 rfl) ?_
    refine lv_iadd hx hb dX12_again_50 ?_
    obtain ⟨j_3, hj_3, hi_3, h⟩ := ck_some h
    refine gx_iald S hK hw t_232 j_3 hj_3 hi_3 dX12_again_51 ?_
    obtain ⟨j_4, hj_4, hi_4, h⟩ := ck_some h
    refine gx_iast S hK gx_ok hw t_206 j_4 hj_4 hi_4 dX12_again_52 (fun H locs hw => ?_)
    obtain ⟨σ_5, e_5, h⟩ := nm_some h
    rw [← e_5] at hw
    refine lv_iinc (v := x2 + 1) (lv' := [(2, .int (x2 + 1)), (0, .ref (E.2.2 + 199)), (1, .int x1)]) hx hb dX12_again_53 hl (k := 2) rfl rfl (by decide) rfl (fun ls hl => ?_)
    obtain ⟨v_6, e_6, h⟩ := nm_some h
    have hl : lv_has ls 3 [(2, .int v_6), (0, .ref (E.2.2 + 199)), (1, .int x1)] := by rw [e_6]; exact hl
    refine lv_goto (tgt := 30) hx hb dX12_again_56 (by decide) ?_
    exact hrec_30 σ_5 τ x1 v_6 _ _ _ _ _ _ h hw (lv_sub hl [1, 2, 0] rfl)
set_option maxHeartbeats 4000000 in
set_option maxRecDepth 100000 in
theorem h_X12_again_30 (l : Launch) (S : CallFix P9 m9 C9 cX12_again 3 s av.toArray gx_G RX12) (hr : meth.sig.returnType = (some .boolean)) (hlk : meth.locks = false) (hK : gx_K E s) (N : Nat) : ∀ (n : Nat) (σ : gI) (τ : gJ) (x1 : Int32) (x2 : Int32) (r : Int32) (σ1 : gI) (τ1 : gJ), H_X12_again_30 N n σ τ x1 x2 = some (r, σ1, τ1) → ∀ (H : Heap) (locs : List Loc) (ls : Array Slot), gx_W gx_tb gx_tb.length E s σ τ H locs → lv_has ls 3 [(0, .ref (E.2.2 + 199)), (1, .int x1), (2, .int x2)] → W P9 l e9 (gx_rm 1) s m9 av.toArray below meth C9 H locs 0 0 (gq_Qi below av s E r σ1 τ1) (F0 m9 30 ls []) := by
  intro n
  induction n with
  | zero => intro σ τ x1 x2 r σ1 τ1 h; cases h
  | succ n ih =>
    intro σ τ x1 x2 r σ1 τ1 h H locs ls hw hl
    exact k_X12_again_30 l S hr hlk hK N (H_X12_again_30 N n) (fun σ τ x1 x2 r σ1 τ1 H locs ls h hw hl => ih σ τ x1 x2 r σ1 τ1 h H locs ls hw hl) σ τ x1 x2 h hw hl
set_option maxHeartbeats 4000000 in
set_option maxRecDepth 100000 in
theorem b_X12_again_0 (l : Launch) (S : CallFix P9 m9 C9 cX12_again 3 s av.toArray gx_G RX12) (hr : meth.sig.returnType = (some .boolean)) (hlk : meth.locks = false) (hK : gx_K E s) (N : Nat) (σ : gI) (τ : gJ) (x1 : Int32) {r : Int32} {σ1 : gI} {τ1 : gJ} (h : B_X12_again_0 N σ τ x1 = some (r, σ1, τ1)) {H : Heap} {locs : List Loc} {ls : Array Slot} (hw : gx_W gx_tb gx_tb.length E s σ τ H locs) (hl : lv_has ls 3 [(0, .ref (E.2.2 + 199)), (1, .int x1)]) : W P9 l e9 (gx_rm 1) s m9 av.toArray below meth C9 H locs 0 0 (gq_Qi below av s E r σ1 τ1) (F0 m9 0 ls []) := by
  have hx := S.1
  have hb := S.2.1
  unfold B_X12_again_0 at h
  refine lv_aload_n hx hb dX12_again_0 rfl (lv_at hl 0 rfl) ?_
  refine lv_iconst (v := 0) hx hb dX12_again_1 (by decide) ?_
  refine gx_put S hK gx_ok hw t_199 cl_13 0 (by decide) rfl mw_1414 rfl rfl (ty := .int) (v := 0) (by decide +kernel) rfl rfl dX12_again_2 (fun H locs hw => ?_)
  obtain ⟨σ_1, e_1, h⟩ := nm_some h
  rw [← e_1] at hw
  refine lv_iload_n hx hb dX12_again_5 rfl (lv_at hl 1 rfl) ?_
  refine lv_i2l (v := x1.toInt64) hx hb dX12_again_6 rfl ?_
  refine lv_lconst (v := 0) hx hb dX12_again_7 (by decide) ?_
  refine lv_ldc2 (v := 2) hx hb S.2.2.2.1 (S.2.2.2.2 _ mw_2090) dX12_again_8 ?_
  obtain ⟨r_2, σ_2, τ_2, q_2, h⟩ := bd_some h
  refine gx_cSi (As := [.long x1.toInt64, .long 0, .long 2]) (rest := []) S hK gx_ok hw (c_X12_in l (E := E) N σ_1 τ x1.toInt64 0 2 q_2) cw_X12_129 ⟨Nat.le_of_ble_eq_true rfl, Nat.le_of_ble_eq_true rfl⟩ rfl hl.1 rfl (Nat.le_of_ble_eq_true rfl) ⟨Nat.le_of_ble_eq_true rfl, Nat.le_of_ble_eq_true rfl⟩ dX12_again_11 (fun r9 σ9 τ9 H locs hp hw => ?_)
  obtain ⟨rfl, rfl, rfl⟩ := hp
  refine lv_if_eq (tgt := 26) hx hb dX12_again_14 (by decide) (fun c_3 => ?_) (fun c_3 => ?_)
  · rw [if_pos c_3] at h
    refine lv_iconst (v := 0) hx hb dX12_again_26 (by decide) ?_
    obtain ⟨rfl, rfl, rfl⟩ := sm_inj h
    exact gx_ri (post := gq_p 0 σ_2 τ_2) (v := 0) S hr hlk hw rfl dX12_again_27 ⟨rfl, rfl, rfl⟩
  · rw [if_neg c_3] at h
    refine lv_aload_n hx hb dX12_again_17 rfl (lv_at hl 0 rfl) ?_
    refine gx_getr (j := 231) S hK hw t_199 cl_13 58 (by decide) rfl mw_1472 rfl dX12_again_18 ?_
    refine lv_iload_n hx hb dX12_again_21 rfl (lv_at hl 1 rfl) ?_
    obtain ⟨j_4, hj_4, hi_4, h⟩ := ck_some h
    refine gx_zald S hK hw t_231 j_4 hj_4 hi_4 dX12_again_22 ?_
    refine lv_if_ne (tgt := 28) hx hb dX12_again_23 (by decide) (fun c_5 => ?_) (fun c_5 => ?_)
    · rw [if_neg c_5] at h
      refine lv_iconst (v := 0) hx hb dX12_again_28 (by decide) ?_
      refine lv_istore_n (lv' := [(2, .int 0), (0, .ref (E.2.2 + 199)), (1, .int x1)]) hx hb dX12_again_29 rfl hl (by decide) rfl (fun ls hl => ?_)
      exact h_X12_again_30 l S hr hlk hK N N σ_2 τ_2 x1 0 _ _ _ h _ _ _ hw (lv_sub hl [1, 2, 0] rfl)
    · rw [if_pos c_5] at h
      refine lv_iconst (v := 0) hx hb dX12_again_26 (by decide) ?_
      obtain ⟨rfl, rfl, rfl⟩ := sm_inj h
      exact gx_ri (post := gq_p 0 σ_2 τ_2) (v := 0) S hr hlk hw rfl dX12_again_27 ⟨rfl, rfl, rfl⟩
set_option maxHeartbeats 4000000 in
set_option maxRecDepth 100000 in
theorem c_X12_again (l : Launch) {E : gE} (N : Nat) (σ : gI) (τ : gJ) (x1 : Int32) {r : Int32} {σ1 : gI} {τ1 : gJ} (h : B_X12_again_0 N σ τ x1 = some (r, σ1, τ1)) : gx_Mi l yX12_again cX12_again 3 (some .boolean) 1 gx_tb E σ τ [.ref (E.2.2 + 199), .int x1] (gq_p r σ1 τ1) := by
  refine gx_bi (by decide +kernel) (Nat.le_of_ble_eq_true rfl) ?_
  intro P9 e9 s m9 below meth C9 S hr hlk hK hw ls hl
  have hl : lv_has ls 3 [(0, .ref (E.2.2 + 199)), (1, .int x1)] := hl
  exact b_X12_again_0 l S hr hlk hK N σ τ x1 h hw hl
/-! J3_checkIndex_8e157 -/
def B_J3_checkIndex_8e157_0 (N : Nat) (σ : gI) (τ : gJ) (x0 : Int32) (x1 : Int32) : Option (Int32 × gI × gJ) := if x0 < 0 then (none) else (if x0 < x1 then (some (x0, σ, τ)) else (none))
set_option maxHeartbeats 4000000 in
set_option maxRecDepth 100000 in
theorem b_J3_checkIndex_8e157_0 (l : Launch) (S : CallFix P9 m9 C9 cJ3_checkIndex_8e157 3 s av.toArray gx_G RJ3) (hr : meth.sig.returnType = (some .int)) (hlk : meth.locks = false) (hK : gx_K E s) (N : Nat) (σ : gI) (τ : gJ) (x0 : Int32) (x1 : Int32) {r : Int32} {σ1 : gI} {τ1 : gJ} (h : B_J3_checkIndex_8e157_0 N σ τ x0 x1 = some (r, σ1, τ1)) {H : Heap} {locs : List Loc} {ls : Array Slot} (hw : gx_W gx_tb gx_tb.length E s σ τ H locs) (hl : lv_has ls 3 [(0, .int x0), (1, .int x1), (2, w9)]) : W P9 l e9 (gx_rm 0) s m9 av.toArray below meth C9 H locs 0 0 (gq_Qi below av s E r σ1 τ1) (F0 m9 0 ls []) := by
  have hx := S.1
  have hb := S.2.1
  unfold B_J3_checkIndex_8e157_0 at h
  refine lv_iload_n hx hb dJ3_checkIndex_8e157_0 rfl (lv_at hl 0 rfl) ?_
  refine lv_if_lt (tgt := 9) hx hb dJ3_checkIndex_8e157_1 (by decide) (fun c_1 => ?_) (fun c_1 => ?_)
  · rw [if_pos c_1] at h
    cases h
  · rw [if_neg c_1] at h
    refine lv_iload_n hx hb dJ3_checkIndex_8e157_4 rfl (lv_at hl 0 rfl) ?_
    refine lv_iload_n hx hb dJ3_checkIndex_8e157_5 rfl (lv_at hl 1 rfl) ?_
    refine lv_icmp_lt (tgt := 16) hx hb dJ3_checkIndex_8e157_6 (by decide) (fun c_2 => ?_) (fun c_2 => ?_)
    · rw [if_pos c_2] at h
      refine lv_iload_n hx hb dJ3_checkIndex_8e157_16 rfl (lv_at hl 0 rfl) ?_
      obtain ⟨rfl, rfl, rfl⟩ := sm_inj h
      exact gx_ri (post := gq_p x0 σ τ) (v := x0) S hr hlk hw rfl dJ3_checkIndex_8e157_17 ⟨rfl, rfl, rfl⟩
    · rw [if_neg c_2] at h
      cases h
set_option maxHeartbeats 4000000 in
set_option maxRecDepth 100000 in
theorem c_J3_checkIndex_8e157 (l : Launch) {E : gE} (w9 : Value) (hw9 : w9 = .null ∨ ∃ t, w9 = .ref t) (N : Nat) (σ : gI) (τ : gJ) (x0 : Int32) (x1 : Int32) {r : Int32} {σ1 : gI} {τ1 : gJ} (h : B_J3_checkIndex_8e157_0 N σ τ x0 x1 = some (r, σ1, τ1)) : gx_Mi l yJ3_checkIndex_8e157 cJ3_checkIndex_8e157 3 (some .int) 0 gx_tb E σ τ [.int x0, .int x1, w9] (gq_p r σ1 τ1) := by
  refine gx_bi (by decide +kernel) (by rcases hw9 with rfl | ⟨t, rfl⟩ <;> exact Nat.le_of_ble_eq_true rfl) ?_
  intro P9 e9 s m9 below meth C9 S hr hlk hK hw ls hl
  have hl : lv_has ls 3 [(0, .int x0), (1, .int x1), (2, w9)] := hl
  exact b_J3_checkIndex_8e157_0 l S hr hlk hK N σ τ x0 x1 h hw hl
/-! J0_checkIndex_df160 -/
def B_J0_checkIndex_df160_0 (N : Nat) (σ : gI) (τ : gJ) (x0 : Int32) (x1 : Int32) : Option (Unit × gI × gJ) := bd (B_J3_checkIndex_8e157_0 N σ τ x0 x1) fun r_2 σ_2 τ_2 => some ((), σ_2, τ_2)
set_option maxHeartbeats 4000000 in
set_option maxRecDepth 100000 in
theorem b_J0_checkIndex_df160_0 (l : Launch) (S : CallFix P9 m9 C9 cJ0_checkIndex_df160 2 s av.toArray gx_G RJ0) (hr : meth.sig.returnType = none) (hlk : meth.locks = false) (hK : gx_K E s) (N : Nat) (σ : gI) (τ : gJ) (x0 : Int32) (x1 : Int32) {r : Unit} {σ1 : gI} {τ1 : gJ} (h : B_J0_checkIndex_df160_0 N σ τ x0 x1 = some (r, σ1, τ1)) {H : Heap} {locs : List Loc} {ls : Array Slot} (hw : gx_W gx_tb gx_tb.length E s σ τ H locs) (hl : lv_has ls 2 [(0, .int x0), (1, .int x1)]) : W P9 l e9 (gx_rm 1) s m9 av.toArray below meth C9 H locs 0 0 (gq_Qv below av s E σ1 τ1) (F0 m9 0 ls []) := by
  have hx := S.1
  have hb := S.2.1
  unfold B_J0_checkIndex_df160_0 at h
  refine lv_iload_n hx hb dJ0_checkIndex_df160_0 rfl (lv_at hl 0 rfl) ?_
  refine lv_iload_n hx hb dJ0_checkIndex_df160_1 rfl (lv_at hl 1 rfl) ?_
  refine gx_fmt S hK hw mw_601 dJ0_checkIndex_df160_2 (fun w_1 hw_1 => ?_)
  obtain ⟨r_2, σ_2, τ_2, q_2, h⟩ := bd_some h
  refine gx_cSi (As := [.int x0, .int x1, w_1]) (rest := []) S hK gx_ok hw (c_J3_checkIndex_8e157 l (E := E) w_1 hw_1 N σ τ x0 x1 q_2) cw_J0_1059 ⟨Nat.le_of_ble_eq_true rfl, Nat.le_of_ble_eq_true rfl⟩ rfl hl.1 rfl (Nat.le_of_ble_eq_true rfl) ⟨Nat.le_of_ble_eq_true rfl, Nat.le_of_ble_eq_true rfl⟩ dJ0_checkIndex_df160_5 (fun r9 σ9 τ9 H locs hp hw => ?_)
  obtain ⟨rfl, rfl, rfl⟩ := hp
  refine lv_pop hx hb dJ0_checkIndex_df160_8 rfl ?_
  obtain ⟨-, rfl, rfl⟩ := sm_inj h
  exact gx_rv (post := gq_v σ_2 τ_2) S hr hlk hw dJ0_checkIndex_df160_9 ⟨rfl, rfl⟩
set_option maxHeartbeats 4000000 in
set_option maxRecDepth 100000 in
theorem c_J0_checkIndex_df160 (l : Launch) {E : gE} (N : Nat) (σ : gI) (τ : gJ) (x0 : Int32) (x1 : Int32) {r : Unit} {σ1 : gI} {τ1 : gJ} (h : B_J0_checkIndex_df160_0 N σ τ x0 x1 = some (r, σ1, τ1)) : gx_Mv l yJ0_checkIndex_df160 cJ0_checkIndex_df160 2 none 1 gx_tb E σ τ [.int x0, .int x1] (gq_v σ1 τ1) := by
  refine gx_bv (by decide +kernel) (Nat.le_of_ble_eq_true rfl) ?_
  intro P9 e9 s m9 below meth C9 S hr hlk hK hw ls hl
  have hl : lv_has ls 2 [(0, .int x0), (1, .int x1)] := hl
  exact b_J0_checkIndex_df160_0 l S hr hlk hK N σ τ x0 x1 h hw hl
/-! J1_charAt_3b067 -/
def B_J1_charAt_3b067_0 (N : Nat) (bs : List Int32) (σ : gI) (τ : gJ) (x1 : Int32) : Option (Int32 × gI × gJ) := bd (B_J0_checkIndex_df160_0 N σ τ x1 (Int32.ofNat bs.length)) fun _ σ_1 τ_1 => ck x1 bs.length fun j_2 => cch ((((bs.getD j_2 0) &&& 255).toUInt32 % 65536).toInt32) <| some ((((bs.getD j_2 0) &&& 255).toUInt32 % 65536).toInt32, σ_1, τ_1)
set_option maxHeartbeats 4000000 in
set_option maxRecDepth 100000 in
theorem b_J1_charAt_3b067_0 (l : Launch) (S : CallFix P9 m9 C9 cJ1_charAt_3b067 2 s av.toArray gx_G RJ1) (hr : meth.sig.returnType = (some .char)) (hlk : meth.locks = false) (hK : gx_K E s) (N : Nat) (bs : List Int32) (hZ : zs_A bs a9 v9 E s s.heap s.heap.size) (σ : gI) (τ : gJ) (x1 : Int32) {r : Int32} {σ1 : gI} {τ1 : gJ} (h : B_J1_charAt_3b067_0 N bs σ τ x1 = some (r, σ1, τ1)) {H : Heap} {locs : List Loc} {ls : Array Slot} (hw : gx_W gx_tb gx_tb.length E s σ τ H locs) (hl : lv_has ls 2 [(0, .ref v9), (1, .int x1)]) : W P9 l e9 (gx_rm 2) s m9 av.toArray below meth C9 H locs 0 0 (gq_Qi below av s E r σ1 τ1) (F0 m9 0 ls []) := by
  have hx := S.1
  have hb := S.2.1
  unfold B_J1_charAt_3b067_0 at h
  refine lv_iload_n hx hb dJ1_charAt_3b067_0 rfl (lv_at hl 1 rfl) ?_
  refine lv_aload_n hx hb dJ1_charAt_3b067_1 rfl (lv_at hl 0 rfl) ?_
  refine zs_len S hZ hw dJ1_charAt_3b067_2 ?_
  obtain ⟨u_1, σ_1, τ_1, q_1, h⟩ := bd_some h
  refine gx_cSv (As := [.int x1, .int (Int32.ofNat bs.length)]) (rest := []) S hK gx_ok hw (c_J0_checkIndex_df160 l (E := E) N σ τ x1 (Int32.ofNat bs.length) q_1) cw_J1_9 ⟨Nat.le_of_ble_eq_true rfl, Nat.le_of_ble_eq_true rfl⟩ rfl hl.1 rfl (Nat.le_of_ble_eq_true rfl) ⟨Nat.le_of_ble_eq_true rfl, Nat.le_of_ble_eq_true rfl⟩ dJ1_charAt_3b067_3 (fun σ9 τ9 H locs hp hw => ?_)
  obtain ⟨rfl, rfl⟩ := hp
  refine lv_aload_n hx hb dJ1_charAt_3b067_6 rfl (lv_at hl 0 rfl) ?_
  refine lv_iload_n hx hb dJ1_charAt_3b067_7 rfl (lv_at hl 1 rfl) ?_
  obtain ⟨j_2, hj_2, hi_2, h⟩ := ck_some h
  refine zs_bal S hZ hw j_2 hj_2 hi_2 dJ1_charAt_3b067_8 ?_
  refine lv_sipush (v := 255) hx hb dJ1_charAt_3b067_9 (by decide) ?_
  refine lv_iand hx hb dJ1_charAt_3b067_12 ?_
  refine lv_i2c (v := (((bs.getD j_2 0) &&& 255).toUInt32 % 65536).toInt32) hx hb dJ1_charAt_3b067_13 rfl ?_
  obtain ⟨hq_3, h⟩ := cch_some h
  obtain ⟨rfl, rfl, rfl⟩ := sm_inj h
  exact gx_ri (post := gq_p ((((bs.getD j_2 0) &&& 255).toUInt32 % 65536).toInt32) σ_1 τ_1) (v := (((bs.getD j_2 0) &&& 255).toUInt32 % 65536).toInt32) S hr hlk hw (cch_nar hq_3) dJ1_charAt_3b067_14 ⟨rfl, rfl, rfl⟩
set_option maxHeartbeats 4000000 in
set_option maxRecDepth 100000 in
theorem c_J1_charAt_3b067 (l : Launch) {E : gE} (N : Nat) (bs : List Int32) (σ : gI) (τ : gJ) (x1 : Int32) {r : Int32} {σ1 : gI} {τ1 : gJ} (h : B_J1_charAt_3b067_0 N bs σ τ x1 = some (r, σ1, τ1)) : gx_Zi l yJ1_charAt_3b067 cJ1_charAt_3b067 2 (some .char) 2 E bs σ τ (fun a9 v9 => [.ref v9, .int x1]) (gq_p r σ1 τ1) := by
  refine zs_bi (by decide +kernel) (fun a9 v9 => Nat.le_of_ble_eq_true rfl) ?_
  intro a9 v9 P9 e9 s m9 below meth C9 S hr hlk hK hZ hw ls hl
  have hl : lv_has ls 2 [(0, .ref v9), (1, .int x1)] := hl
  exact b_J1_charAt_3b067_0 l S hr hlk hK N bs hZ σ τ x1 h hw hl
/-! J0_charAt_5068e -/
def B_J0_charAt_5068e_0 (N : Nat) (bs : List Int32) (σ : gI) (τ : gJ) (x1 : Int32) : Option (Int32 × gI × gJ) := bd (B_J0_isLatin1_aae02_0 N bs σ τ) fun r_1 σ_1 τ_1 => if r_1 = 0 then (none) else (bd (B_J1_charAt_3b067_0 N bs σ_1 τ_1 x1) fun r_3 σ_3 τ_3 => cch r_3 <| some (r_3, σ_3, τ_3))
set_option maxHeartbeats 4000000 in
set_option maxRecDepth 100000 in
theorem b_J0_charAt_5068e_0 (l : Launch) (S : CallFix P9 m9 C9 cJ0_charAt_5068e 2 s av.toArray gx_G RJ0) (hr : meth.sig.returnType = (some .char)) (hlk : meth.locks = false) (hK : gx_K E s) (N : Nat) (bs : List Int32) (hZ : zs_A bs a9 v9 E s s.heap s.heap.size) (σ : gI) (τ : gJ) (x1 : Int32) {r : Int32} {σ1 : gI} {τ1 : gJ} (h : B_J0_charAt_5068e_0 N bs σ τ x1 = some (r, σ1, τ1)) {H : Heap} {locs : List Loc} {ls : Array Slot} (hw : gx_W gx_tb gx_tb.length E s σ τ H locs) (hl : lv_has ls 2 [(0, .ref a9), (1, .int x1)]) : W P9 l e9 (gx_rm 3) s m9 av.toArray below meth C9 H locs 0 0 (gq_Qi below av s E r σ1 τ1) (F0 m9 0 ls []) := by
  have hx := S.1
  have hb := S.2.1
  unfold B_J0_charAt_5068e_0 at h
  refine lv_aload_n hx hb dJ0_charAt_5068e_0 rfl (lv_at hl 0 rfl) ?_
  obtain ⟨r_1, σ_1, τ_1, q_1, h⟩ := bd_some h
  refine zs_V (As := []) (rest := []) S hK hw (zs_h hZ hw) (c_J0_isLatin1_aae02 l (E := E) N bs σ τ q_1) rfl cw_J0_492 (zs_r (zs_h hZ hw) rfl) ⟨Nat.le_of_ble_eq_true rfl, Nat.le_of_ble_eq_true rfl⟩ rfl hl.1 rfl (Nat.le_of_ble_eq_true rfl) ⟨Nat.le_of_ble_eq_true rfl, Nat.le_of_ble_eq_true rfl⟩ dJ0_charAt_5068e_1 (fun r9 σ9 τ9 H locs hp hw => ?_)
  obtain ⟨rfl, rfl, rfl⟩ := hp
  refine lv_if_eq (tgt := 16) hx hb dJ0_charAt_5068e_4 (by decide) (fun c_2 => ?_) (fun c_2 => ?_)
  · rw [if_pos c_2] at h
    cases h
  · rw [if_neg c_2] at h
    refine lv_aload_n hx hb dJ0_charAt_5068e_7 rfl (lv_at hl 0 rfl) ?_
    refine zs_val S hZ hw mw_1697 dJ0_charAt_5068e_8 ?_
    refine lv_iload_n hx hb dJ0_charAt_5068e_11 rfl (lv_at hl 1 rfl) ?_
    obtain ⟨r_3, σ_3, τ_3, q_3, h⟩ := bd_some h
    refine zs_S (As := [.ref v9, .int x1]) (rest := []) S hK hw (zs_h hZ hw) (c_J1_charAt_3b067 l (E := E) N bs σ_1 τ_1 x1 q_3) rfl cw_J0_495 ⟨Nat.le_of_ble_eq_true rfl, Nat.le_of_ble_eq_true rfl⟩ rfl hl.1 rfl (Nat.le_of_ble_eq_true rfl) ⟨Nat.le_of_ble_eq_true rfl, Nat.le_of_ble_eq_true rfl⟩ dJ0_charAt_5068e_12 (fun r9 σ9 τ9 H locs hp hw => ?_)
    obtain ⟨rfl, rfl, rfl⟩ := hp
    obtain ⟨hq_4, h⟩ := cch_some h
    obtain ⟨rfl, rfl, rfl⟩ := sm_inj h
    exact gx_ri (post := gq_p r_3 σ_3 τ_3) (v := r_3) S hr hlk hw (cch_nar hq_4) dJ0_charAt_5068e_15 ⟨rfl, rfl, rfl⟩
set_option maxHeartbeats 4000000 in
set_option maxRecDepth 100000 in
theorem c_J0_charAt_5068e (l : Launch) {E : gE} (N : Nat) (bs : List Int32) (σ : gI) (τ : gJ) (x1 : Int32) {r : Int32} {σ1 : gI} {τ1 : gJ} (h : B_J0_charAt_5068e_0 N bs σ τ x1 = some (r, σ1, τ1)) : gx_Zi l yJ0_charAt_5068e cJ0_charAt_5068e 2 (some .char) 3 E bs σ τ (fun a9 v9 => [.ref a9, .int x1]) (gq_p r σ1 τ1) := by
  refine zs_bi (by decide +kernel) (fun a9 v9 => Nat.le_of_ble_eq_true rfl) ?_
  intro a9 v9 P9 e9 s m9 below meth C9 S hr hlk hK hZ hw ls hl
  have hl : lv_has ls 2 [(0, .ref a9), (1, .int x1)] := hl
  exact b_J0_charAt_5068e_0 l S hr hlk hK N bs hZ σ τ x1 h hw hl
/-! X12_among -/
def C_X12_among_2 (N : Nat) (bs : List Int32) (rec_2 : gI → gJ → Int32 → Option (Int32 × gI × gJ)) (σ : gI) (τ : gJ) (x2 : Int32) : Option (Int32 × gI × gJ) := bd (B_J0_length_8abf5_0 N bs σ τ) fun r_1 σ_1 τ_1 => if r_1 ≤ x2 then (some ((-1), σ_1, τ_1)) else (if σ_1 199 15 ≤ σ_1 199 14 then (some ((-1), σ_1, τ_1)) else (bd (B_J0_charAt_5068e_0 N bs σ_1 τ_1 x2) fun r_4 σ_4 τ_4 => ck (σ_4 199 14) 80 fun j_5 => if r_4 = σ_4 208 j_5 then (some (x2, σ_4, τ_4)) else (nm (x2 + 1) fun v_7 => rec_2 σ_4 τ_4 v_7)))
def H_X12_among_2 (N : Nat) (bs : List Int32) : Nat → gI → gJ → Int32 → Option (Int32 × gI × gJ) := itn (fun rec_2 => C_X12_among_2 N bs rec_2) (fun _ _ _ => none)
def B_X12_among_0 (N : Nat) (bs : List Int32) (σ : gI) (τ : gJ) : Option (Int32 × gI × gJ) := H_X12_among_2 N bs N σ τ 0
set_option maxHeartbeats 4000000 in
set_option maxRecDepth 100000 in
theorem k_X12_among_2 (l : Launch) (S : CallFix P9 m9 C9 cX12_among 3 s av.toArray gx_G RX12) (hr : meth.sig.returnType = (some .int)) (hlk : meth.locks = false) (hK : gx_K E s) (N : Nat) (bs : List Int32) (hZ : zs_A bs a9 v9 E s s.heap s.heap.size) (rec_2 : gI → gJ → Int32 → Option (Int32 × gI × gJ)) (hrec_2 : ∀ (σ : gI) (τ : gJ) (x2 : Int32) (r : Int32) (σ1 : gI) (τ1 : gJ) (H : Heap) (locs : List Loc) (ls : Array Slot), rec_2 σ τ x2 = some (r, σ1, τ1) → gx_W gx_tb gx_tb.length E s σ τ H locs → lv_has ls 3 [(0, .ref (E.2.2 + 199)), (1, .ref a9), (2, .int x2)] → W P9 l e9 (gx_rm 4) s m9 av.toArray below meth C9 H locs 0 0 (gq_Qi below av s E r σ1 τ1) (F0 m9 2 ls [])) (σ : gI) (τ : gJ) (x2 : Int32) {r : Int32} {σ1 : gI} {τ1 : gJ} (h : C_X12_among_2 N bs rec_2 σ τ x2 = some (r, σ1, τ1)) {H : Heap} {locs : List Loc} {ls : Array Slot} (hw : gx_W gx_tb gx_tb.length E s σ τ H locs) (hl : lv_has ls 3 [(0, .ref (E.2.2 + 199)), (1, .ref a9), (2, .int x2)]) : W P9 l e9 (gx_rm 4) s m9 av.toArray below meth C9 H locs 0 0 (gq_Qi below av s E r σ1 τ1) (F0 m9 2 ls []) := by
  have hx := S.1
  have hb := S.2.1
  unfold C_X12_among_2 at h
  refine lv_iload_n hx hb dX12_among_2 rfl (lv_at hl 2 rfl) ?_
  refine lv_aload_n hx hb dX12_among_3 rfl (lv_at hl 1 rfl) ?_
  obtain ⟨r_1, σ_1, τ_1, q_1, h⟩ := bd_some h
  refine zs_V (As := []) (rest := [.int x2]) S hK hw (zs_h hZ hw) (c_J0_length_8abf5 l (E := E) N bs σ τ q_1) rfl cw_X12_163 (zs_r (zs_h hZ hw) rfl) ⟨Nat.le_of_ble_eq_true rfl, Nat.le_of_ble_eq_true rfl⟩ rfl hl.1 rfl (Nat.le_of_ble_eq_true rfl) ⟨Nat.le_of_ble_eq_true rfl, Nat.le_of_ble_eq_true rfl⟩ dX12_among_4 (fun r9 σ9 τ9 H locs hp hw => ?_)
  obtain ⟨rfl, rfl, rfl⟩ := hp
  refine lv_icmp_ge (tgt := 46) hx hb dX12_among_7 (by decide) (fun c_2 => ?_) (fun c_2 => ?_)
  · rw [if_pos c_2] at h
    refine lv_iconst (v := (-1)) hx hb dX12_among_46 (by decide) ?_
    obtain ⟨rfl, rfl, rfl⟩ := sm_inj h
    exact gx_ri (post := gq_p (-1) σ_1 τ_1) (v := (-1)) S hr hlk hw rfl dX12_among_47 ⟨rfl, rfl, rfl⟩
  · rw [if_neg c_2] at h
    refine lv_aload_n hx hb dX12_among_10 rfl (lv_at hl 0 rfl) ?_
    refine gx_get S hK hw t_199 cl_13 14 (by decide) rfl mw_1428 rfl dX12_among_11 ?_
    refine lv_aload_n hx hb dX12_among_14 rfl (lv_at hl 0 rfl) ?_
    refine gx_get S hK hw t_199 cl_13 15 (by decide) rfl mw_1429 rfl dX12_among_15 ?_
    refine lv_icmp_ge (tgt := 46) hx hb dX12_among_18 (by decide) (fun c_3 => ?_) (fun c_3 => ?_)
    · rw [if_pos c_3] at h
      refine lv_iconst (v := (-1)) hx hb dX12_among_46 (by decide) ?_
      obtain ⟨rfl, rfl, rfl⟩ := sm_inj h
      exact gx_ri (post := gq_p (-1) σ_1 τ_1) (v := (-1)) S hr hlk hw rfl dX12_among_47 ⟨rfl, rfl, rfl⟩
    · rw [if_neg c_3] at h
      refine lv_aload_n hx hb dX12_among_21 rfl (lv_at hl 1 rfl) ?_
      refine lv_iload_n hx hb dX12_among_22 rfl (lv_at hl 2 rfl) ?_
      obtain ⟨r_4, σ_4, τ_4, q_4, h⟩ := bd_some h
      refine zs_V (As := [.int x2]) (rest := []) S hK hw (zs_h hZ hw) (c_J0_charAt_5068e l (E := E) N bs σ_1 τ_1 x2 q_4) rfl cw_X12_169 (zs_r (zs_h hZ hw) rfl) ⟨Nat.le_of_ble_eq_true rfl, Nat.le_of_ble_eq_true rfl⟩ rfl hl.1 rfl (Nat.le_of_ble_eq_true rfl) ⟨Nat.le_of_ble_eq_true rfl, Nat.le_of_ble_eq_true rfl⟩ dX12_among_23 (fun r9 σ9 τ9 H locs hp hw => ?_)
      obtain ⟨rfl, rfl, rfl⟩ := hp
      refine lv_aload_n hx hb dX12_among_26 rfl (lv_at hl 0 rfl) ?_
      refine gx_getr (j := 208) S hK hw t_199 cl_13 12 (by decide) rfl mw_1426 rfl dX12_among_27 ?_
      refine lv_aload_n hx hb dX12_among_30 rfl (lv_at hl 0 rfl) ?_
      refine gx_get S hK hw t_199 cl_13 14 (by decide) rfl mw_1428 rfl dX12_among_31 ?_
      obtain ⟨j_5, hj_5, hi_5, h⟩ := ck_some h
      refine gx_iald S hK hw t_208 j_5 hj_5 hi_5 dX12_among_34 ?_
      refine lv_icmp_ne (tgt := 40) hx hb dX12_among_35 (by decide) (fun c_6 => ?_) (fun c_6 => ?_)
      · rw [if_neg c_6] at h
        refine lv_iinc (v := x2 + 1) (lv' := [(2, .int (x2 + 1)), (0, .ref (E.2.2 + 199)), (1, .ref a9)]) hx hb dX12_among_40 hl (k := 2) rfl rfl (by decide) rfl (fun ls hl => ?_)
        obtain ⟨v_7, e_7, h⟩ := nm_some h
        have hl : lv_has ls 3 [(2, .int v_7), (0, .ref (E.2.2 + 199)), (1, .ref a9)] := by rw [e_7]; exact hl
        refine lv_goto (tgt := 2) hx hb dX12_among_43 (by decide) ?_
        exact hrec_2 σ_4 τ_4 v_7 _ _ _ _ _ _ h hw (lv_sub hl [1, 2, 0] rfl)
      · rw [if_pos c_6] at h
        refine lv_iload_n hx hb dX12_among_38 rfl (lv_at hl 2 rfl) ?_
        obtain ⟨rfl, rfl, rfl⟩ := sm_inj h
        exact gx_ri (post := gq_p x2 σ_4 τ_4) (v := x2) S hr hlk hw rfl dX12_among_39 ⟨rfl, rfl, rfl⟩
set_option maxHeartbeats 4000000 in
set_option maxRecDepth 100000 in
theorem h_X12_among_2 (l : Launch) (S : CallFix P9 m9 C9 cX12_among 3 s av.toArray gx_G RX12) (hr : meth.sig.returnType = (some .int)) (hlk : meth.locks = false) (hK : gx_K E s) (N : Nat) (bs : List Int32) (hZ : zs_A bs a9 v9 E s s.heap s.heap.size) : ∀ (n : Nat) (σ : gI) (τ : gJ) (x2 : Int32) (r : Int32) (σ1 : gI) (τ1 : gJ), H_X12_among_2 N bs n σ τ x2 = some (r, σ1, τ1) → ∀ (H : Heap) (locs : List Loc) (ls : Array Slot), gx_W gx_tb gx_tb.length E s σ τ H locs → lv_has ls 3 [(0, .ref (E.2.2 + 199)), (1, .ref a9), (2, .int x2)] → W P9 l e9 (gx_rm 4) s m9 av.toArray below meth C9 H locs 0 0 (gq_Qi below av s E r σ1 τ1) (F0 m9 2 ls []) := by
  intro n
  induction n with
  | zero => intro σ τ x2 r σ1 τ1 h; cases h
  | succ n ih =>
    intro σ τ x2 r σ1 τ1 h H locs ls hw hl
    exact k_X12_among_2 l S hr hlk hK N bs hZ (H_X12_among_2 N bs n) (fun σ τ x2 r σ1 τ1 H locs ls h hw hl => ih σ τ x2 r σ1 τ1 h H locs ls hw hl) σ τ x2 h hw hl
set_option maxHeartbeats 4000000 in
set_option maxRecDepth 100000 in
theorem b_X12_among_0 (l : Launch) (S : CallFix P9 m9 C9 cX12_among 3 s av.toArray gx_G RX12) (hr : meth.sig.returnType = (some .int)) (hlk : meth.locks = false) (hK : gx_K E s) (N : Nat) (bs : List Int32) (hZ : zs_A bs a9 v9 E s s.heap s.heap.size) (σ : gI) (τ : gJ) {r : Int32} {σ1 : gI} {τ1 : gJ} (h : B_X12_among_0 N bs σ τ = some (r, σ1, τ1)) {H : Heap} {locs : List Loc} {ls : Array Slot} (hw : gx_W gx_tb gx_tb.length E s σ τ H locs) (hl : lv_has ls 3 [(0, .ref (E.2.2 + 199)), (1, .ref a9)]) : W P9 l e9 (gx_rm 4) s m9 av.toArray below meth C9 H locs 0 0 (gq_Qi below av s E r σ1 τ1) (F0 m9 0 ls []) := by
  have hx := S.1
  have hb := S.2.1
  unfold B_X12_among_0 at h
  refine lv_iconst (v := 0) hx hb dX12_among_0 (by decide) ?_
  refine lv_istore_n (lv' := [(2, .int 0), (0, .ref (E.2.2 + 199)), (1, .ref a9)]) hx hb dX12_among_1 rfl hl (by decide) rfl (fun ls hl => ?_)
  exact h_X12_among_2 l S hr hlk hK N bs hZ N σ τ 0 _ _ _ h _ _ _ hw (lv_sub hl [1, 2, 0] rfl)
set_option maxHeartbeats 4000000 in
set_option maxRecDepth 100000 in
theorem c_X12_among (l : Launch) {E : gE} (N : Nat) (bs : List Int32) (σ : gI) (τ : gJ) {r : Int32} {σ1 : gI} {τ1 : gJ} (h : B_X12_among_0 N bs σ τ = some (r, σ1, τ1)) : gx_Zi l yX12_among cX12_among 3 (some .int) 4 E bs σ τ (fun a9 v9 => [.ref (E.2.2 + 199), .ref a9]) (gq_p r σ1 τ1) := by
  refine zs_bi (by decide +kernel) (fun a9 v9 => Nat.le_of_ble_eq_true rfl) ?_
  intro a9 v9 P9 e9 s m9 below meth C9 S hr hlk hK hZ hw ls hl
  have hl : lv_has ls 3 [(0, .ref (E.2.2 + 199)), (1, .ref a9)] := hl
  exact b_X12_among_0 l S hr hlk hK N bs hZ σ τ h hw hl
/-! X12_has -/
def B_X12_has_0 (N : Nat) (σ : gI) (τ : gJ) (x0 : Int32) (x1 : Int32) : Option (Int32 × gI × gJ) := if (x0 >>> (x1 &&& 31)) &&& 1 = 1 then (some (1, σ, τ)) else (some (0, σ, τ))
set_option maxHeartbeats 4000000 in
set_option maxRecDepth 100000 in
theorem b_X12_has_0 (l : Launch) (S : CallFix P9 m9 C9 cX12_has 2 s av.toArray gx_G RX12) (hr : meth.sig.returnType = (some .boolean)) (hlk : meth.locks = false) (hK : gx_K E s) (N : Nat) (σ : gI) (τ : gJ) (x0 : Int32) (x1 : Int32) {r : Int32} {σ1 : gI} {τ1 : gJ} (h : B_X12_has_0 N σ τ x0 x1 = some (r, σ1, τ1)) {H : Heap} {locs : List Loc} {ls : Array Slot} (hw : gx_W gx_tb gx_tb.length E s σ τ H locs) (hl : lv_has ls 2 [(0, .int x0), (1, .int x1)]) : W P9 l e9 (gx_rm 0) s m9 av.toArray below meth C9 H locs 0 0 (gq_Qi below av s E r σ1 τ1) (F0 m9 0 ls []) := by
  have hx := S.1
  have hb := S.2.1
  unfold B_X12_has_0 at h
  refine lv_iload_n hx hb dX12_has_0 rfl (lv_at hl 0 rfl) ?_
  refine lv_iload_n hx hb dX12_has_1 rfl (lv_at hl 1 rfl) ?_
  refine lv_ishr hx hb dX12_has_2 ?_
  refine lv_iconst (v := 1) hx hb dX12_has_3 (by decide) ?_
  refine lv_iand hx hb dX12_has_4 ?_
  refine lv_iconst (v := 1) hx hb dX12_has_5 (by decide) ?_
  refine lv_icmp_ne (tgt := 13) hx hb dX12_has_6 (by decide) (fun c_1 => ?_) (fun c_1 => ?_)
  · rw [if_neg c_1] at h
    refine lv_iconst (v := 0) hx hb dX12_has_13 (by decide) ?_
    obtain ⟨rfl, rfl, rfl⟩ := sm_inj h
    exact gx_ri (post := gq_p 0 σ τ) (v := 0) S hr hlk hw rfl dX12_has_14 ⟨rfl, rfl, rfl⟩
  · rw [if_pos c_1] at h
    refine lv_iconst (v := 1) hx hb dX12_has_9 (by decide) ?_
    refine lv_goto (tgt := 14) hx hb dX12_has_10 (by decide) ?_
    obtain ⟨rfl, rfl, rfl⟩ := sm_inj h
    exact gx_ri (post := gq_p 1 σ τ) (v := 1) S hr hlk hw rfl dX12_has_14 ⟨rfl, rfl, rfl⟩
set_option maxHeartbeats 4000000 in
set_option maxRecDepth 100000 in
theorem c_X12_has (l : Launch) {E : gE} (N : Nat) (σ : gI) (τ : gJ) (x0 : Int32) (x1 : Int32) {r : Int32} {σ1 : gI} {τ1 : gJ} (h : B_X12_has_0 N σ τ x0 x1 = some (r, σ1, τ1)) : gx_Mi l yX12_has cX12_has 2 (some .boolean) 0 gx_tb E σ τ [.int x0, .int x1] (gq_p r σ1 τ1) := by
  refine gx_bi (by decide +kernel) (Nat.le_of_ble_eq_true rfl) ?_
  intro P9 e9 s m9 below meth C9 S hr hlk hK hw ls hl
  have hl : lv_has ls 2 [(0, .int x0), (1, .int x1)] := hl
  exact b_X12_has_0 l S hr hlk hK N σ τ x0 x1 h hw hl
/-! X12_waterIn -/
def B_X12_waterIn_72 (N : Nat) (σ : gI) (τ : gJ) (x3 : Int32) (y0 : Int32) : Option (Int32 × gI × gJ) := if y0 = 0 then (some (x3, σ, τ)) else (some (imin 3 (x3 + 1), σ, τ))
def B_X12_waterIn_27 (N : Nat) (σ : gI) (τ : gJ) (x2 : Int32) (y0 : Int32) : Option (Int32 × gI × gJ) := if x2 < σ 199 32 then (B_X12_waterIn_72 N σ τ y0 0) else (if 8 ≤ x2 - (σ 199 32) then (B_X12_waterIn_72 N σ τ y0 0) else (bd (B_X12_has_0 N σ τ (σ 199 31) (imax 0 (x2 - (σ 199 32)))) fun r_3 σ_3 τ_3 => if r_3 = 0 then (B_X12_waterIn_72 N σ_3 τ_3 y0 0) else (B_X12_waterIn_72 N σ_3 τ_3 y0 1)))
def B_X12_waterIn_0 (N : Nat) (σ : gI) (τ : gJ) (x1 : Int32) : Option (Int32 × gI × gJ) := nm (x1 / 10) fun v_1 => if σ 199 4 = 0 then (B_X12_waterIn_27 N σ τ v_1 1) else (dz (σ 199 4) <| ck (v_1 - v_1 / (σ 199 4) * (σ 199 4)) 40 fun j_4 => B_X12_waterIn_27 N σ τ v_1 (σ 205 j_4))
set_option maxHeartbeats 4000000 in
set_option maxRecDepth 100000 in
theorem b_X12_waterIn_72 (l : Launch) (S : CallFix P9 m9 C9 cX12_waterIn 5 s av.toArray gx_G RX12) (hr : meth.sig.returnType = (some .int)) (hlk : meth.locks = false) (hK : gx_K E s) (N : Nat) (σ : gI) (τ : gJ) (x3 : Int32) (y0 : Int32) {r : Int32} {σ1 : gI} {τ1 : gJ} (h : B_X12_waterIn_72 N σ τ x3 y0 = some (r, σ1, τ1)) {H : Heap} {locs : List Loc} {ls : Array Slot} (hw : gx_W gx_tb gx_tb.length E s σ τ H locs) (hl : lv_has ls 5 [(3, .int x3)]) : W P9 l e9 (gx_rm 1) s m9 av.toArray below meth C9 H locs 0 0 (gq_Qi below av s E r σ1 τ1) (F0 m9 72 ls [.int y0]) := by
  have hx := S.1
  have hb := S.2.1
  unfold B_X12_waterIn_72 at h
  refine lv_istore (lv' := [(4, .int y0), (3, .int x3)]) hx hb dX12_waterIn_72 hl (by decide) rfl (fun ls hl => ?_)
  refine lv_iload hx hb dX12_waterIn_74 (lv_at hl 0 rfl) ?_
  refine lv_if_eq (tgt := 89) hx hb dX12_waterIn_76 (by decide) (fun c_1 => ?_) (fun c_1 => ?_)
  · rw [if_pos c_1] at h
    refine lv_iload_n hx hb dX12_waterIn_89 rfl (lv_at hl 1 rfl) ?_
    obtain ⟨rfl, rfl, rfl⟩ := sm_inj h
    exact gx_ri (post := gq_p x3 σ τ) (v := x3) S hr hlk hw rfl dX12_waterIn_90 ⟨rfl, rfl, rfl⟩
  · rw [if_neg c_1] at h
    refine lv_iconst (v := 3) hx hb dX12_waterIn_79 (by decide) ?_
    refine lv_iload_n hx hb dX12_waterIn_80 rfl (lv_at hl 1 rfl) ?_
    refine lv_iconst (v := 1) hx hb dX12_waterIn_81 (by decide) ?_
    refine lv_iadd hx hb dX12_waterIn_82 ?_
    refine gx_min (w := imin 3 (x3 + 1)) S hl.1 mw_1614 mw_529 mw_102 mw_530 ⟨Nat.le_of_ble_eq_true rfl, Nat.le_of_ble_eq_true rfl⟩ ⟨Nat.le_of_ble_eq_true rfl, Nat.le_of_ble_eq_true rfl⟩ dX12_waterIn_83 rfl ?_
    refine lv_goto (tgt := 90) hx hb dX12_waterIn_86 (by decide) ?_
    obtain ⟨rfl, rfl, rfl⟩ := sm_inj h
    exact gx_ri (post := gq_p (imin 3 (x3 + 1)) σ τ) (v := imin 3 (x3 + 1)) S hr hlk hw rfl dX12_waterIn_90 ⟨rfl, rfl, rfl⟩
set_option maxHeartbeats 4000000 in
set_option maxRecDepth 100000 in
theorem b_X12_waterIn_27 (l : Launch) (S : CallFix P9 m9 C9 cX12_waterIn 5 s av.toArray gx_G RX12) (hr : meth.sig.returnType = (some .int)) (hlk : meth.locks = false) (hK : gx_K E s) (N : Nat) (σ : gI) (τ : gJ) (x2 : Int32) (y0 : Int32) {r : Int32} {σ1 : gI} {τ1 : gJ} (h : B_X12_waterIn_27 N σ τ x2 y0 = some (r, σ1, τ1)) {H : Heap} {locs : List Loc} {ls : Array Slot} (hw : gx_W gx_tb gx_tb.length E s σ τ H locs) (hl : lv_has ls 5 [(0, .ref (E.2.2 + 199)), (2, .int x2)]) : W P9 l e9 (gx_rm 1) s m9 av.toArray below meth C9 H locs 0 0 (gq_Qi below av s E r σ1 τ1) (F0 m9 27 ls [.int y0]) := by
  have hx := S.1
  have hb := S.2.1
  unfold B_X12_waterIn_27 at h
  refine lv_istore_n (lv' := [(3, .int y0), (0, .ref (E.2.2 + 199)), (2, .int x2)]) hx hb dX12_waterIn_27 rfl hl (by decide) rfl (fun ls hl => ?_)
  refine lv_iload_n hx hb dX12_waterIn_28 rfl (lv_at hl 2 rfl) ?_
  refine lv_aload_n hx hb dX12_waterIn_29 rfl (lv_at hl 1 rfl) ?_
  refine gx_get S hK hw t_199 cl_13 32 (by decide) rfl mw_1446 rfl dX12_waterIn_30 ?_
  refine lv_icmp_lt (tgt := 71) hx hb dX12_waterIn_33 (by decide) (fun c_1 => ?_) (fun c_1 => ?_)
  · rw [if_pos c_1] at h
    refine lv_iconst (v := 0) hx hb dX12_waterIn_71 (by decide) ?_
    exact b_X12_waterIn_72 l S hr hlk hK N σ τ y0 0 h hw (lv_sub hl [0] rfl)
  · rw [if_neg c_1] at h
    refine lv_iload_n hx hb dX12_waterIn_36 rfl (lv_at hl 2 rfl) ?_
    refine lv_aload_n hx hb dX12_waterIn_37 rfl (lv_at hl 1 rfl) ?_
    refine gx_get S hK hw t_199 cl_13 32 (by decide) rfl mw_1446 rfl dX12_waterIn_38 ?_
    refine lv_isub hx hb dX12_waterIn_41 ?_
    refine lv_bipush (v := 8) hx hb dX12_waterIn_42 (by decide) ?_
    refine lv_icmp_ge (tgt := 71) hx hb dX12_waterIn_44 (by decide) (fun c_2 => ?_) (fun c_2 => ?_)
    · rw [if_pos c_2] at h
      refine lv_iconst (v := 0) hx hb dX12_waterIn_71 (by decide) ?_
      exact b_X12_waterIn_72 l S hr hlk hK N σ τ y0 0 h hw (lv_sub hl [0] rfl)
    · rw [if_neg c_2] at h
      refine lv_aload_n hx hb dX12_waterIn_47 rfl (lv_at hl 1 rfl) ?_
      refine gx_get S hK hw t_199 cl_13 31 (by decide) rfl mw_1445 rfl dX12_waterIn_48 ?_
      refine lv_iconst (v := 0) hx hb dX12_waterIn_51 (by decide) ?_
      refine lv_iload_n hx hb dX12_waterIn_52 rfl (lv_at hl 2 rfl) ?_
      refine lv_aload_n hx hb dX12_waterIn_53 rfl (lv_at hl 1 rfl) ?_
      refine gx_get S hK hw t_199 cl_13 32 (by decide) rfl mw_1446 rfl dX12_waterIn_54 ?_
      refine lv_isub hx hb dX12_waterIn_57 ?_
      refine gx_max (w := imax 0 (x2 - (σ 199 32))) S hl.1 mw_1803 mw_577 mw_102 mw_578 ⟨Nat.le_of_ble_eq_true rfl, Nat.le_of_ble_eq_true rfl⟩ ⟨Nat.le_of_ble_eq_true rfl, Nat.le_of_ble_eq_true rfl⟩ dX12_waterIn_58 rfl ?_
      obtain ⟨r_3, σ_3, τ_3, q_3, h⟩ := bd_some h
      refine gx_cSi (As := [.int (σ 199 31), .int (imax 0 (x2 - (σ 199 32)))]) (rest := []) S hK gx_ok hw (c_X12_has l (E := E) N σ τ (σ 199 31) (imax 0 (x2 - (σ 199 32))) q_3) cw_X12_264 ⟨Nat.le_of_ble_eq_true rfl, Nat.le_of_ble_eq_true rfl⟩ rfl hl.1 rfl (Nat.le_of_ble_eq_true rfl) ⟨Nat.le_of_ble_eq_true rfl, Nat.le_of_ble_eq_true rfl⟩ dX12_waterIn_61 (fun r9 σ9 τ9 H locs hp hw => ?_)
      obtain ⟨rfl, rfl, rfl⟩ := hp
      refine lv_if_eq (tgt := 71) hx hb dX12_waterIn_64 (by decide) (fun c_4 => ?_) (fun c_4 => ?_)
      · rw [if_pos c_4] at h
        refine lv_iconst (v := 0) hx hb dX12_waterIn_71 (by decide) ?_
        exact b_X12_waterIn_72 l S hr hlk hK N σ_3 τ_3 y0 0 h hw (lv_sub hl [0] rfl)
      · rw [if_neg c_4] at h
        refine lv_iconst (v := 1) hx hb dX12_waterIn_67 (by decide) ?_
        refine lv_goto (tgt := 72) hx hb dX12_waterIn_68 (by decide) ?_
        exact b_X12_waterIn_72 l S hr hlk hK N σ_3 τ_3 y0 1 h hw (lv_sub hl [0] rfl)
set_option maxHeartbeats 4000000 in
set_option maxRecDepth 100000 in
theorem b_X12_waterIn_0 (l : Launch) (S : CallFix P9 m9 C9 cX12_waterIn 5 s av.toArray gx_G RX12) (hr : meth.sig.returnType = (some .int)) (hlk : meth.locks = false) (hK : gx_K E s) (N : Nat) (σ : gI) (τ : gJ) (x1 : Int32) {r : Int32} {σ1 : gI} {τ1 : gJ} (h : B_X12_waterIn_0 N σ τ x1 = some (r, σ1, τ1)) {H : Heap} {locs : List Loc} {ls : Array Slot} (hw : gx_W gx_tb gx_tb.length E s σ τ H locs) (hl : lv_has ls 5 [(0, .ref (E.2.2 + 199)), (1, .int x1)]) : W P9 l e9 (gx_rm 1) s m9 av.toArray below meth C9 H locs 0 0 (gq_Qi below av s E r σ1 τ1) (F0 m9 0 ls []) := by
  have hx := S.1
  have hb := S.2.1
  unfold B_X12_waterIn_0 at h
  refine lv_iload_n hx hb dX12_waterIn_0 rfl (lv_at hl 1 rfl) ?_
  refine lv_bipush (v := 10) hx hb dX12_waterIn_1 (by decide) ?_
  refine lv_idiv hx hb dX12_waterIn_3 (by decide) ?_
  refine lv_istore_n (lv' := [(2, .int (x1 / 10)), (0, .ref (E.2.2 + 199)), (1, .int x1)]) hx hb dX12_waterIn_4 rfl hl (by decide) rfl (fun ls hl => ?_)
  obtain ⟨v_1, e_1, h⟩ := nm_some h
  have hl : lv_has ls 5 [(2, .int v_1), (0, .ref (E.2.2 + 199)), (1, .int x1)] := by rw [e_1]; exact hl
  refine lv_aload_n hx hb dX12_waterIn_5 rfl (lv_at hl 1 rfl) ?_
  refine gx_get S hK hw t_199 cl_13 4 (by decide) rfl mw_1418 rfl dX12_waterIn_6 ?_
  refine lv_if_ne (tgt := 16) hx hb dX12_waterIn_9 (by decide) (fun c_2 => ?_) (fun c_2 => ?_)
  · rw [if_neg c_2] at h
    refine lv_aload_n hx hb dX12_waterIn_16 rfl (lv_at hl 1 rfl) ?_
    refine gx_getr (j := 205) S hK hw t_199 cl_13 9 (by decide) rfl mw_1423 rfl dX12_waterIn_17 ?_
    refine lv_iload_n hx hb dX12_waterIn_20 rfl (lv_at hl 0 rfl) ?_
    refine lv_aload_n hx hb dX12_waterIn_21 rfl (lv_at hl 1 rfl) ?_
    refine gx_get S hK hw t_199 cl_13 4 (by decide) rfl mw_1418 rfl dX12_waterIn_22 ?_
    obtain ⟨hz_3, h⟩ := dz_some h
    refine lv_irem hx hb dX12_waterIn_25 hz_3 ?_
    obtain ⟨j_4, hj_4, hi_4, h⟩ := ck_some h
    refine gx_iald S hK hw t_205 j_4 hj_4 hi_4 dX12_waterIn_26 ?_
    exact b_X12_waterIn_27 l S hr hlk hK N σ τ v_1 (σ 205 j_4) h hw (lv_sub hl [1, 0] rfl)
  · rw [if_pos c_2] at h
    refine lv_iconst (v := 1) hx hb dX12_waterIn_12 (by decide) ?_
    refine lv_goto (tgt := 27) hx hb dX12_waterIn_13 (by decide) ?_
    exact b_X12_waterIn_27 l S hr hlk hK N σ τ v_1 1 h hw (lv_sub hl [1, 0] rfl)
set_option maxHeartbeats 4000000 in
set_option maxRecDepth 100000 in
theorem c_X12_waterIn (l : Launch) {E : gE} (N : Nat) (σ : gI) (τ : gJ) (x1 : Int32) {r : Int32} {σ1 : gI} {τ1 : gJ} (h : B_X12_waterIn_0 N σ τ x1 = some (r, σ1, τ1)) : gx_Mi l yX12_waterIn cX12_waterIn 5 (some .int) 1 gx_tb E σ τ [.ref (E.2.2 + 199), .int x1] (gq_p r σ1 τ1) := by
  refine gx_bi (by decide +kernel) (Nat.le_of_ble_eq_true rfl) ?_
  intro P9 e9 s m9 below meth C9 S hr hlk hK hw ls hl
  have hl : lv_has ls 5 [(0, .ref (E.2.2 + 199)), (1, .int x1)] := hl
  exact b_X12_waterIn_0 l S hr hlk hK N σ τ x1 h hw hl
/-! X12_flag -/
def B_X12_flag_0 (N : Nat) (σ : gI) (τ : gJ) (x0 : Int32) : Option (Int32 × gI × gJ) := if x0 = 0 then (some (0, σ, τ)) else (some (1, σ, τ))
set_option maxHeartbeats 4000000 in
set_option maxRecDepth 100000 in
theorem b_X12_flag_0 (l : Launch) (S : CallFix P9 m9 C9 cX12_flag 1 s av.toArray gx_G RX12) (hr : meth.sig.returnType = (some .int)) (hlk : meth.locks = false) (hK : gx_K E s) (N : Nat) (σ : gI) (τ : gJ) (x0 : Int32) {r : Int32} {σ1 : gI} {τ1 : gJ} (h : B_X12_flag_0 N σ τ x0 = some (r, σ1, τ1)) {H : Heap} {locs : List Loc} {ls : Array Slot} (hw : gx_W gx_tb gx_tb.length E s σ τ H locs) (hl : lv_has ls 1 [(0, .int x0)]) : W P9 l e9 (gx_rm 0) s m9 av.toArray below meth C9 H locs 0 0 (gq_Qi below av s E r σ1 τ1) (F0 m9 0 ls []) := by
  have hx := S.1
  have hb := S.2.1
  unfold B_X12_flag_0 at h
  refine lv_iload_n hx hb dX12_flag_0 rfl (lv_at hl 0 rfl) ?_
  refine lv_if_eq (tgt := 8) hx hb dX12_flag_1 (by decide) (fun c_1 => ?_) (fun c_1 => ?_)
  · rw [if_pos c_1] at h
    refine lv_iconst (v := 0) hx hb dX12_flag_8 (by decide) ?_
    obtain ⟨rfl, rfl, rfl⟩ := sm_inj h
    exact gx_ri (post := gq_p 0 σ τ) (v := 0) S hr hlk hw rfl dX12_flag_9 ⟨rfl, rfl, rfl⟩
  · rw [if_neg c_1] at h
    refine lv_iconst (v := 1) hx hb dX12_flag_4 (by decide) ?_
    refine lv_goto (tgt := 9) hx hb dX12_flag_5 (by decide) ?_
    obtain ⟨rfl, rfl, rfl⟩ := sm_inj h
    exact gx_ri (post := gq_p 1 σ τ) (v := 1) S hr hlk hw rfl dX12_flag_9 ⟨rfl, rfl, rfl⟩
set_option maxHeartbeats 4000000 in
set_option maxRecDepth 100000 in
theorem c_X12_flag (l : Launch) {E : gE} (N : Nat) (σ : gI) (τ : gJ) (x0 : Int32) {r : Int32} {σ1 : gI} {τ1 : gJ} (h : B_X12_flag_0 N σ τ x0 = some (r, σ1, τ1)) : gx_Mi l yX12_flag cX12_flag 1 (some .int) 0 gx_tb E σ τ [.int x0] (gq_p r σ1 τ1) := by
  refine gx_bi (by decide +kernel) (Nat.le_of_ble_eq_true rfl) ?_
  intro P9 e9 s m9 below meth C9 S hr hlk hK hw ls hl
  have hl : lv_has ls 1 [(0, .int x0)] := hl
  exact b_X12_flag_0 l S hr hlk hK N σ τ x0 h hw hl
/-! X12_othersAt -/
def C_X12_othersAt_4 (N : Nat) (q : Nat) (rec_4 : gI → gJ → Int32 → Int32 → Int32 → Option (Int32 × gI × gJ)) (σ : gI) (τ : gJ) (x1 : Int32) (x2 : Int32) (x3 : Int32) : Option (Int32 × gI × gJ) := if σ q 44 ≤ x3 then (some (x2, σ, τ)) else (if x3 = x1 then (bd (B_X12_flag_0 N σ τ 0) fun r_3 σ_3 τ_3 => nm (x2 + r_3) fun v_4 => nm (x3 + 1) fun v_5 => rec_4 σ_3 τ_3 x1 v_4 v_5) else (ck ((7 * x3) + 4) 45 fun j_6 => if σ q j_6 = 0 then (ck ((7 * x3) + 0) 45 fun j_11 => ck ((7 * x1) + 0) 45 fun j_12 => if σ q j_11 = σ q j_12 then (bd (B_X12_flag_0 N σ τ 1) fun r_17 σ_17 τ_17 => nm (x2 + r_17) fun v_18 => nm (x3 + 1) fun v_19 => rec_4 σ_17 τ_17 x1 v_18 v_19) else (bd (B_X12_flag_0 N σ τ 0) fun r_14 σ_14 τ_14 => nm (x2 + r_14) fun v_15 => nm (x3 + 1) fun v_16 => rec_4 σ_14 τ_14 x1 v_15 v_16)) else (bd (B_X12_flag_0 N σ τ 0) fun r_8 σ_8 τ_8 => nm (x2 + r_8) fun v_9 => nm (x3 + 1) fun v_10 => rec_4 σ_8 τ_8 x1 v_9 v_10)))
def H_X12_othersAt_4 (N : Nat) (q : Nat) : Nat → gI → gJ → Int32 → Int32 → Int32 → Option (Int32 × gI × gJ) := itn (fun rec_4 => C_X12_othersAt_4 N q rec_4) (fun _ _ _ _ _ => none)
def B_X12_othersAt_0 (N : Nat) (q : Nat) (σ : gI) (τ : gJ) (x1 : Int32) : Option (Int32 × gI × gJ) := H_X12_othersAt_4 N q N σ τ x1 0 0
set_option maxHeartbeats 4000000 in
set_option maxRecDepth 100000 in
theorem k_X12_othersAt_4 (l : Launch) (S : CallFix P9 m9 C9 cX12_othersAt 4 s av.toArray gx_G RX12) (hr : meth.sig.returnType = (some .int)) (hlk : meth.locks = false) (hK : gx_K E s) (N : Nat) (q : Nat) (tq : gx_tb[q]? = some (.inr (0, 45, []))) (rec_4 : gI → gJ → Int32 → Int32 → Int32 → Option (Int32 × gI × gJ)) (hrec_4 : ∀ (σ : gI) (τ : gJ) (x1 : Int32) (x2 : Int32) (x3 : Int32) (r : Int32) (σ1 : gI) (τ1 : gJ) (H : Heap) (locs : List Loc) (ls : Array Slot), rec_4 σ τ x1 x2 x3 = some (r, σ1, τ1) → gx_W gx_tb gx_tb.length E s σ τ H locs → lv_has ls 4 [(0, .ref (E.2.2 + q)), (1, .int x1), (2, .int x2), (3, .int x3)] → W P9 l e9 (gx_rm 1) s m9 av.toArray below meth C9 H locs 0 0 (gq_Qi below av s E r σ1 τ1) (F0 m9 4 ls [])) (σ : gI) (τ : gJ) (x1 : Int32) (x2 : Int32) (x3 : Int32) {r : Int32} {σ1 : gI} {τ1 : gJ} (h : C_X12_othersAt_4 N q rec_4 σ τ x1 x2 x3 = some (r, σ1, τ1)) {H : Heap} {locs : List Loc} {ls : Array Slot} (hw : gx_W gx_tb gx_tb.length E s σ τ H locs) (hl : lv_has ls 4 [(0, .ref (E.2.2 + q)), (1, .int x1), (2, .int x2), (3, .int x3)]) : W P9 l e9 (gx_rm 1) s m9 av.toArray below meth C9 H locs 0 0 (gq_Qi below av s E r σ1 τ1) (F0 m9 4 ls []) := by
  have hx := S.1
  have hb := S.2.1
  unfold C_X12_othersAt_4 at h
  refine lv_iload_n hx hb dX12_othersAt_4 rfl (lv_at hl 3 rfl) ?_
  refine lv_aload_n hx hb dX12_othersAt_5 rfl (lv_at hl 0 rfl) ?_
  refine lv_bipush (v := 44) hx hb dX12_othersAt_6 (by decide) ?_
  refine gx_iald S hK hw tq 44 rfl (gx_in rfl (by decide) (by decide)) dX12_othersAt_8 ?_
  refine lv_icmp_ge (tgt := 64) hx hb dX12_othersAt_9 (by decide) (fun c_1 => ?_) (fun c_1 => ?_)
  · rw [if_pos c_1] at h
    refine lv_iload_n hx hb dX12_othersAt_64 rfl (lv_at hl 2 rfl) ?_
    obtain ⟨rfl, rfl, rfl⟩ := sm_inj h
    exact gx_ri (post := gq_p x2 σ τ) (v := x2) S hr hlk hw rfl dX12_othersAt_65 ⟨rfl, rfl, rfl⟩
  · rw [if_neg c_1] at h
    refine lv_iload_n hx hb dX12_othersAt_12 rfl (lv_at hl 2 rfl) ?_
    refine lv_iload_n hx hb dX12_othersAt_13 rfl (lv_at hl 3 rfl) ?_
    refine lv_iload_n hx hb dX12_othersAt_14 rfl (lv_at hl 1 rfl) ?_
    refine lv_icmp_eq (tgt := 52) hx hb dX12_othersAt_15 (by decide) (fun c_2 => ?_) (fun c_2 => ?_)
    · rw [if_pos c_2] at h
      refine lv_iconst (v := 0) hx hb dX12_othersAt_52 (by decide) ?_
      obtain ⟨r_3, σ_3, τ_3, q_3, h⟩ := bd_some h
      refine gx_cSi (As := [.int 0]) (rest := [.int x2]) S hK gx_ok hw (c_X12_flag l (E := E) N σ τ 0 q_3) cw_X12_155 ⟨Nat.le_of_ble_eq_true rfl, Nat.le_of_ble_eq_true rfl⟩ rfl hl.1 rfl (Nat.le_of_ble_eq_true rfl) ⟨Nat.le_of_ble_eq_true rfl, Nat.le_of_ble_eq_true rfl⟩ dX12_othersAt_53 (fun r9 σ9 τ9 H locs hp hw => ?_)
      obtain ⟨rfl, rfl, rfl⟩ := hp
      refine lv_iadd hx hb dX12_othersAt_56 ?_
      refine lv_istore_n (lv' := [(2, .int (x2 + r_3)), (0, .ref (E.2.2 + q)), (1, .int x1), (3, .int x3)]) hx hb dX12_othersAt_57 rfl hl (by decide) rfl (fun ls hl => ?_)
      obtain ⟨v_4, e_4, h⟩ := nm_some h
      have hl : lv_has ls 4 [(2, .int v_4), (0, .ref (E.2.2 + q)), (1, .int x1), (3, .int x3)] := by rw [e_4]; exact hl
      refine lv_iinc (v := x3 + 1) (lv' := [(3, .int (x3 + 1)), (2, .int v_4), (0, .ref (E.2.2 + q)), (1, .int x1)]) hx hb dX12_othersAt_58 hl (k := 3) rfl rfl (by decide) rfl (fun ls hl => ?_)
      obtain ⟨v_5, e_5, h⟩ := nm_some h
      have hl : lv_has ls 4 [(3, .int v_5), (2, .int v_4), (0, .ref (E.2.2 + q)), (1, .int x1)] := by rw [e_5]; exact hl
      refine lv_goto (tgt := 4) hx hb dX12_othersAt_61 (by decide) ?_
      exact hrec_4 σ_3 τ_3 x1 v_4 v_5 _ _ _ _ _ _ h hw (lv_sub hl [2, 3, 1, 0] rfl)
    · rw [if_neg c_2] at h
      refine lv_aload_n hx hb dX12_othersAt_18 rfl (lv_at hl 0 rfl) ?_
      refine lv_bipush (v := 7) hx hb dX12_othersAt_19 (by decide) ?_
      refine lv_iload_n hx hb dX12_othersAt_21 rfl (lv_at hl 3 rfl) ?_
      refine lv_imul hx hb dX12_othersAt_22 ?_
      refine lv_iconst (v := 4) hx hb dX12_othersAt_23 (by decide) ?_
      refine lv_iadd hx hb dX12_othersAt_24 ?_
      obtain ⟨j_6, hj_6, hi_6, h⟩ := ck_some h
      refine gx_iald S hK hw tq j_6 hj_6 hi_6 dX12_othersAt_25 ?_
      refine lv_if_ne (tgt := 52) hx hb dX12_othersAt_26 (by decide) (fun c_7 => ?_) (fun c_7 => ?_)
      · rw [if_neg c_7] at h
        refine lv_iconst (v := 0) hx hb dX12_othersAt_52 (by decide) ?_
        obtain ⟨r_8, σ_8, τ_8, q_8, h⟩ := bd_some h
        refine gx_cSi (As := [.int 0]) (rest := [.int x2]) S hK gx_ok hw (c_X12_flag l (E := E) N σ τ 0 q_8) cw_X12_155 ⟨Nat.le_of_ble_eq_true rfl, Nat.le_of_ble_eq_true rfl⟩ rfl hl.1 rfl (Nat.le_of_ble_eq_true rfl) ⟨Nat.le_of_ble_eq_true rfl, Nat.le_of_ble_eq_true rfl⟩ dX12_othersAt_53 (fun r9 σ9 τ9 H locs hp hw => ?_)
        obtain ⟨rfl, rfl, rfl⟩ := hp
        refine lv_iadd hx hb dX12_othersAt_56 ?_
        refine lv_istore_n (lv' := [(2, .int (x2 + r_8)), (0, .ref (E.2.2 + q)), (1, .int x1), (3, .int x3)]) hx hb dX12_othersAt_57 rfl hl (by decide) rfl (fun ls hl => ?_)
        obtain ⟨v_9, e_9, h⟩ := nm_some h
        have hl : lv_has ls 4 [(2, .int v_9), (0, .ref (E.2.2 + q)), (1, .int x1), (3, .int x3)] := by rw [e_9]; exact hl
        refine lv_iinc (v := x3 + 1) (lv' := [(3, .int (x3 + 1)), (2, .int v_9), (0, .ref (E.2.2 + q)), (1, .int x1)]) hx hb dX12_othersAt_58 hl (k := 3) rfl rfl (by decide) rfl (fun ls hl => ?_)
        obtain ⟨v_10, e_10, h⟩ := nm_some h
        have hl : lv_has ls 4 [(3, .int v_10), (2, .int v_9), (0, .ref (E.2.2 + q)), (1, .int x1)] := by rw [e_10]; exact hl
        refine lv_goto (tgt := 4) hx hb dX12_othersAt_61 (by decide) ?_
        exact hrec_4 σ_8 τ_8 x1 v_9 v_10 _ _ _ _ _ _ h hw (lv_sub hl [2, 3, 1, 0] rfl)
      · rw [if_pos c_7] at h
        refine lv_aload_n hx hb dX12_othersAt_29 rfl (lv_at hl 0 rfl) ?_
        refine lv_bipush (v := 7) hx hb dX12_othersAt_30 (by decide) ?_
        refine lv_iload_n hx hb dX12_othersAt_32 rfl (lv_at hl 3 rfl) ?_
        refine lv_imul hx hb dX12_othersAt_33 ?_
        refine lv_iconst (v := 0) hx hb dX12_othersAt_34 (by decide) ?_
        refine lv_iadd hx hb dX12_othersAt_35 ?_
        obtain ⟨j_11, hj_11, hi_11, h⟩ := ck_some h
        refine gx_iald S hK hw tq j_11 hj_11 hi_11 dX12_othersAt_36 ?_
        refine lv_aload_n hx hb dX12_othersAt_37 rfl (lv_at hl 0 rfl) ?_
        refine lv_bipush (v := 7) hx hb dX12_othersAt_38 (by decide) ?_
        refine lv_iload_n hx hb dX12_othersAt_40 rfl (lv_at hl 1 rfl) ?_
        refine lv_imul hx hb dX12_othersAt_41 ?_
        refine lv_iconst (v := 0) hx hb dX12_othersAt_42 (by decide) ?_
        refine lv_iadd hx hb dX12_othersAt_43 ?_
        obtain ⟨j_12, hj_12, hi_12, h⟩ := ck_some h
        refine gx_iald S hK hw tq j_12 hj_12 hi_12 dX12_othersAt_44 ?_
        refine lv_icmp_ne (tgt := 52) hx hb dX12_othersAt_45 (by decide) (fun c_13 => ?_) (fun c_13 => ?_)
        · rw [if_neg c_13] at h
          refine lv_iconst (v := 0) hx hb dX12_othersAt_52 (by decide) ?_
          obtain ⟨r_14, σ_14, τ_14, q_14, h⟩ := bd_some h
          refine gx_cSi (As := [.int 0]) (rest := [.int x2]) S hK gx_ok hw (c_X12_flag l (E := E) N σ τ 0 q_14) cw_X12_155 ⟨Nat.le_of_ble_eq_true rfl, Nat.le_of_ble_eq_true rfl⟩ rfl hl.1 rfl (Nat.le_of_ble_eq_true rfl) ⟨Nat.le_of_ble_eq_true rfl, Nat.le_of_ble_eq_true rfl⟩ dX12_othersAt_53 (fun r9 σ9 τ9 H locs hp hw => ?_)
          obtain ⟨rfl, rfl, rfl⟩ := hp
          refine lv_iadd hx hb dX12_othersAt_56 ?_
          refine lv_istore_n (lv' := [(2, .int (x2 + r_14)), (0, .ref (E.2.2 + q)), (1, .int x1), (3, .int x3)]) hx hb dX12_othersAt_57 rfl hl (by decide) rfl (fun ls hl => ?_)
          obtain ⟨v_15, e_15, h⟩ := nm_some h
          have hl : lv_has ls 4 [(2, .int v_15), (0, .ref (E.2.2 + q)), (1, .int x1), (3, .int x3)] := by rw [e_15]; exact hl
          refine lv_iinc (v := x3 + 1) (lv' := [(3, .int (x3 + 1)), (2, .int v_15), (0, .ref (E.2.2 + q)), (1, .int x1)]) hx hb dX12_othersAt_58 hl (k := 3) rfl rfl (by decide) rfl (fun ls hl => ?_)
          obtain ⟨v_16, e_16, h⟩ := nm_some h
          have hl : lv_has ls 4 [(3, .int v_16), (2, .int v_15), (0, .ref (E.2.2 + q)), (1, .int x1)] := by rw [e_16]; exact hl
          refine lv_goto (tgt := 4) hx hb dX12_othersAt_61 (by decide) ?_
          exact hrec_4 σ_14 τ_14 x1 v_15 v_16 _ _ _ _ _ _ h hw (lv_sub hl [2, 3, 1, 0] rfl)
        · rw [if_pos c_13] at h
          refine lv_iconst (v := 1) hx hb dX12_othersAt_48 (by decide) ?_
          refine lv_goto (tgt := 53) hx hb dX12_othersAt_49 (by decide) ?_
          obtain ⟨r_17, σ_17, τ_17, q_17, h⟩ := bd_some h
          refine gx_cSi (As := [.int 1]) (rest := [.int x2]) S hK gx_ok hw (c_X12_flag l (E := E) N σ τ 1 q_17) cw_X12_155 ⟨Nat.le_of_ble_eq_true rfl, Nat.le_of_ble_eq_true rfl⟩ rfl hl.1 rfl (Nat.le_of_ble_eq_true rfl) ⟨Nat.le_of_ble_eq_true rfl, Nat.le_of_ble_eq_true rfl⟩ dX12_othersAt_53 (fun r9 σ9 τ9 H locs hp hw => ?_)
          obtain ⟨rfl, rfl, rfl⟩ := hp
          refine lv_iadd hx hb dX12_othersAt_56 ?_
          refine lv_istore_n (lv' := [(2, .int (x2 + r_17)), (0, .ref (E.2.2 + q)), (1, .int x1), (3, .int x3)]) hx hb dX12_othersAt_57 rfl hl (by decide) rfl (fun ls hl => ?_)
          obtain ⟨v_18, e_18, h⟩ := nm_some h
          have hl : lv_has ls 4 [(2, .int v_18), (0, .ref (E.2.2 + q)), (1, .int x1), (3, .int x3)] := by rw [e_18]; exact hl
          refine lv_iinc (v := x3 + 1) (lv' := [(3, .int (x3 + 1)), (2, .int v_18), (0, .ref (E.2.2 + q)), (1, .int x1)]) hx hb dX12_othersAt_58 hl (k := 3) rfl rfl (by decide) rfl (fun ls hl => ?_)
          obtain ⟨v_19, e_19, h⟩ := nm_some h
          have hl : lv_has ls 4 [(3, .int v_19), (2, .int v_18), (0, .ref (E.2.2 + q)), (1, .int x1)] := by rw [e_19]; exact hl
          refine lv_goto (tgt := 4) hx hb dX12_othersAt_61 (by decide) ?_
          exact hrec_4 σ_17 τ_17 x1 v_18 v_19 _ _ _ _ _ _ h hw (lv_sub hl [2, 3, 1, 0] rfl)
set_option maxHeartbeats 4000000 in
set_option maxRecDepth 100000 in
theorem h_X12_othersAt_4 (l : Launch) (S : CallFix P9 m9 C9 cX12_othersAt 4 s av.toArray gx_G RX12) (hr : meth.sig.returnType = (some .int)) (hlk : meth.locks = false) (hK : gx_K E s) (N : Nat) (q : Nat) (tq : gx_tb[q]? = some (.inr (0, 45, []))) : ∀ (n : Nat) (σ : gI) (τ : gJ) (x1 : Int32) (x2 : Int32) (x3 : Int32) (r : Int32) (σ1 : gI) (τ1 : gJ), H_X12_othersAt_4 N q n σ τ x1 x2 x3 = some (r, σ1, τ1) → ∀ (H : Heap) (locs : List Loc) (ls : Array Slot), gx_W gx_tb gx_tb.length E s σ τ H locs → lv_has ls 4 [(0, .ref (E.2.2 + q)), (1, .int x1), (2, .int x2), (3, .int x3)] → W P9 l e9 (gx_rm 1) s m9 av.toArray below meth C9 H locs 0 0 (gq_Qi below av s E r σ1 τ1) (F0 m9 4 ls []) := by
  intro n
  induction n with
  | zero => intro σ τ x1 x2 x3 r σ1 τ1 h; cases h
  | succ n ih =>
    intro σ τ x1 x2 x3 r σ1 τ1 h H locs ls hw hl
    exact k_X12_othersAt_4 l S hr hlk hK N q tq (H_X12_othersAt_4 N q n) (fun σ τ x1 x2 x3 r σ1 τ1 H locs ls h hw hl => ih σ τ x1 x2 x3 r σ1 τ1 h H locs ls hw hl) σ τ x1 x2 x3 h hw hl
set_option maxHeartbeats 4000000 in
set_option maxRecDepth 100000 in
theorem b_X12_othersAt_0 (l : Launch) (S : CallFix P9 m9 C9 cX12_othersAt 4 s av.toArray gx_G RX12) (hr : meth.sig.returnType = (some .int)) (hlk : meth.locks = false) (hK : gx_K E s) (N : Nat) (q : Nat) (tq : gx_tb[q]? = some (.inr (0, 45, []))) (σ : gI) (τ : gJ) (x1 : Int32) {r : Int32} {σ1 : gI} {τ1 : gJ} (h : B_X12_othersAt_0 N q σ τ x1 = some (r, σ1, τ1)) {H : Heap} {locs : List Loc} {ls : Array Slot} (hw : gx_W gx_tb gx_tb.length E s σ τ H locs) (hl : lv_has ls 4 [(0, .ref (E.2.2 + q)), (1, .int x1)]) : W P9 l e9 (gx_rm 1) s m9 av.toArray below meth C9 H locs 0 0 (gq_Qi below av s E r σ1 τ1) (F0 m9 0 ls []) := by
  have hx := S.1
  have hb := S.2.1
  unfold B_X12_othersAt_0 at h
  refine lv_iconst (v := 0) hx hb dX12_othersAt_0 (by decide) ?_
  refine lv_istore_n (lv' := [(2, .int 0), (0, .ref (E.2.2 + q)), (1, .int x1)]) hx hb dX12_othersAt_1 rfl hl (by decide) rfl (fun ls hl => ?_)
  refine lv_iconst (v := 0) hx hb dX12_othersAt_2 (by decide) ?_
  refine lv_istore_n (lv' := [(3, .int 0), (2, .int 0), (0, .ref (E.2.2 + q)), (1, .int x1)]) hx hb dX12_othersAt_3 rfl hl (by decide) rfl (fun ls hl => ?_)
  exact h_X12_othersAt_4 l S hr hlk hK N q tq N σ τ x1 0 0 _ _ _ h _ _ _ hw (lv_sub hl [2, 3, 1, 0] rfl)
set_option maxHeartbeats 4000000 in
set_option maxRecDepth 100000 in
theorem c_X12_othersAt (l : Launch) {E : gE} (N : Nat) (q : Nat) (tq : gx_tb[q]? = some (.inr (0, 45, []))) (σ : gI) (τ : gJ) (x1 : Int32) {r : Int32} {σ1 : gI} {τ1 : gJ} (h : B_X12_othersAt_0 N q σ τ x1 = some (r, σ1, τ1)) : gx_Mi l yX12_othersAt cX12_othersAt 4 (some .int) 1 gx_tb E σ τ [.ref (E.2.2 + q), .int x1] (gq_p r σ1 τ1) := by
  refine gx_bi (by decide +kernel) (Nat.le_of_ble_eq_true rfl) ?_
  intro P9 e9 s m9 below meth C9 S hr hlk hK hw ls hl
  have hl : lv_has ls 4 [(0, .ref (E.2.2 + q)), (1, .int x1)] := hl
  exact b_X12_othersAt_0 l S hr hlk hK N q tq σ τ x1 h hw hl
/-! X12_askedOf -/
def B_X12_askedOf_0 (N : Nat) (q : Nat) (σ : gI) (τ : gJ) (x2 : Int32) (x3 : Int32) : Option (Int32 × gI × gJ) := nm (7 * x2) fun v_1 => if x3 = 0 then (ck (v_1 + 0) 45 fun j_3 => some (((σ q 42) >>> ((σ q j_3) &&& 31)) &&& 1, σ, τ)) else if x3 = 1 then (some (σ q 43, σ, τ)) else if x3 = 2 then (bd (B_X12_waterIn_0 N σ τ (σ q 43)) fun r_6 σ_6 τ_6 => some (r_6, σ_6, τ_6)) else if x3 = 3 then (some (x2, σ, τ)) else if x3 = 4 then (ck (v_1 + 1) 45 fun j_9 => some (σ q j_9, σ, τ)) else if x3 = 5 then (ck (v_1 + 2) 45 fun j_11 => some (σ q j_11, σ, τ)) else if x3 = 6 then (bd (B_X12_othersAt_0 N q σ τ x2) fun r_13 σ_13 τ_13 => some (r_13, σ_13, τ_13)) else (ck (v_1 + 0) 45 fun j_14 => some (σ q j_14, σ, τ))
set_option maxHeartbeats 4000000 in
set_option maxRecDepth 100000 in
theorem b_X12_askedOf_0 (l : Launch) (S : CallFix P9 m9 C9 cX12_askedOf 5 s av.toArray gx_G RX12) (hr : meth.sig.returnType = (some .int)) (hlk : meth.locks = false) (hK : gx_K E s) (N : Nat) (q : Nat) (tq : gx_tb[q]? = some (.inr (0, 45, []))) (σ : gI) (τ : gJ) (x2 : Int32) (x3 : Int32) {r : Int32} {σ1 : gI} {τ1 : gJ} (h : B_X12_askedOf_0 N q σ τ x2 x3 = some (r, σ1, τ1)) {H : Heap} {locs : List Loc} {ls : Array Slot} (hw : gx_W gx_tb gx_tb.length E s σ τ H locs) (hl : lv_has ls 5 [(0, .ref (E.2.2 + 199)), (1, .ref (E.2.2 + q)), (2, .int x2), (3, .int x3)]) : W P9 l e9 (gx_rm 2) s m9 av.toArray below meth C9 H locs 0 0 (gq_Qi below av s E r σ1 τ1) (F0 m9 0 ls []) := by
  have hx := S.1
  have hb := S.2.1
  unfold B_X12_askedOf_0 at h
  refine lv_bipush (v := 7) hx hb dX12_askedOf_0 (by decide) ?_
  refine lv_iload_n hx hb dX12_askedOf_2 rfl (lv_at hl 2 rfl) ?_
  refine lv_imul hx hb dX12_askedOf_3 ?_
  refine lv_istore (lv' := [(4, .int (7 * x2)), (0, .ref (E.2.2 + 199)), (1, .ref (E.2.2 + q)), (2, .int x2), (3, .int x3)]) hx hb dX12_askedOf_4 hl (by decide) rfl (fun ls hl => ?_)
  obtain ⟨v_1, e_1, h⟩ := nm_some h
  have hl : lv_has ls 5 [(4, .int v_1), (0, .ref (E.2.2 + 199)), (1, .ref (E.2.2 + q)), (2, .int x2), (3, .int x3)] := by rw [e_1]; exact hl
  refine lv_iload_n hx hb dX12_askedOf_6 rfl (lv_at hl 4 rfl) ?_
  by_cases c_2 : x3 = 0
  · rw [if_pos c_2] at h
    refine gx_top (v := 0) c_2 ?_
    refine lv_tableIn (tgt := 48) hx hb dX12_askedOf_7 (by decide) (by decide) rfl (by decide) ?_
    refine lv_aload_n hx hb dX12_askedOf_48 rfl (lv_at hl 2 rfl) ?_
    refine lv_bipush (v := 42) hx hb dX12_askedOf_49 (by decide) ?_
    refine gx_iald S hK hw tq 42 rfl (gx_in rfl (by decide) (by decide)) dX12_askedOf_51 ?_
    refine lv_aload_n hx hb dX12_askedOf_52 rfl (lv_at hl 2 rfl) ?_
    refine lv_iload hx hb dX12_askedOf_53 (lv_at hl 0 rfl) ?_
    refine lv_iconst (v := 0) hx hb dX12_askedOf_55 (by decide) ?_
    refine lv_iadd hx hb dX12_askedOf_56 ?_
    obtain ⟨j_3, hj_3, hi_3, h⟩ := ck_some h
    refine gx_iald S hK hw tq j_3 hj_3 hi_3 dX12_askedOf_57 ?_
    refine lv_ishr hx hb dX12_askedOf_58 ?_
    refine lv_iconst (v := 1) hx hb dX12_askedOf_59 (by decide) ?_
    refine lv_iand hx hb dX12_askedOf_60 ?_
    obtain ⟨rfl, rfl, rfl⟩ := sm_inj h
    exact gx_ri (post := gq_p (((σ q 42) >>> ((σ q j_3) &&& 31)) &&& 1) σ τ) (v := ((σ q 42) >>> ((σ q j_3) &&& 31)) &&& 1) S hr hlk hw rfl dX12_askedOf_61 ⟨rfl, rfl, rfl⟩
  rw [if_neg c_2] at h
  by_cases c_4 : x3 = 1
  · rw [if_pos c_4] at h
    refine gx_top (v := 1) c_4 ?_
    refine lv_tableIn (tgt := 62) hx hb dX12_askedOf_7 (by decide) (by decide) rfl (by decide) ?_
    refine lv_aload_n hx hb dX12_askedOf_62 rfl (lv_at hl 2 rfl) ?_
    refine lv_bipush (v := 43) hx hb dX12_askedOf_63 (by decide) ?_
    refine gx_iald S hK hw tq 43 rfl (gx_in rfl (by decide) (by decide)) dX12_askedOf_65 ?_
    obtain ⟨rfl, rfl, rfl⟩ := sm_inj h
    exact gx_ri (post := gq_p (σ q 43) σ τ) (v := σ q 43) S hr hlk hw rfl dX12_askedOf_66 ⟨rfl, rfl, rfl⟩
  rw [if_neg c_4] at h
  by_cases c_5 : x3 = 2
  · rw [if_pos c_5] at h
    refine gx_top (v := 2) c_5 ?_
    refine lv_tableIn (tgt := 67) hx hb dX12_askedOf_7 (by decide) (by decide) rfl (by decide) ?_
    refine lv_aload_n hx hb dX12_askedOf_67 rfl (lv_at hl 1 rfl) ?_
    refine lv_aload_n hx hb dX12_askedOf_68 rfl (lv_at hl 2 rfl) ?_
    refine lv_bipush (v := 43) hx hb dX12_askedOf_69 (by decide) ?_
    refine gx_iald S hK hw tq 43 rfl (gx_in rfl (by decide) (by decide)) dX12_askedOf_71 ?_
    obtain ⟨r_6, σ_6, τ_6, q_6, h⟩ := bd_some h
    refine gx_cVi (As := [.int (σ q 43)]) (rest := []) S hK gx_ok hw (c_X12_waterIn l (E := E) N σ τ (σ q 43) q_6) cw_X12_268 t_199 cl_13 ⟨Nat.le_of_ble_eq_true rfl, Nat.le_of_ble_eq_true rfl⟩ rfl hl.1 rfl (Nat.le_of_ble_eq_true rfl) ⟨Nat.le_of_ble_eq_true rfl, Nat.le_of_ble_eq_true rfl⟩ dX12_askedOf_72 (fun r9 σ9 τ9 H locs hp hw => ?_)
    obtain ⟨rfl, rfl, rfl⟩ := hp
    obtain ⟨rfl, rfl, rfl⟩ := sm_inj h
    exact gx_ri (post := gq_p r_6 σ_6 τ_6) (v := r_6) S hr hlk hw rfl dX12_askedOf_75 ⟨rfl, rfl, rfl⟩
  rw [if_neg c_5] at h
  by_cases c_7 : x3 = 3
  · rw [if_pos c_7] at h
    refine gx_top (v := 3) c_7 ?_
    refine lv_tableIn (tgt := 76) hx hb dX12_askedOf_7 (by decide) (by decide) rfl (by decide) ?_
    refine lv_iload_n hx hb dX12_askedOf_76 rfl (lv_at hl 3 rfl) ?_
    obtain ⟨rfl, rfl, rfl⟩ := sm_inj h
    exact gx_ri (post := gq_p x2 σ τ) (v := x2) S hr hlk hw rfl dX12_askedOf_77 ⟨rfl, rfl, rfl⟩
  rw [if_neg c_7] at h
  by_cases c_8 : x3 = 4
  · rw [if_pos c_8] at h
    refine gx_top (v := 4) c_8 ?_
    refine lv_tableIn (tgt := 78) hx hb dX12_askedOf_7 (by decide) (by decide) rfl (by decide) ?_
    refine lv_aload_n hx hb dX12_askedOf_78 rfl (lv_at hl 2 rfl) ?_
    refine lv_iload hx hb dX12_askedOf_79 (lv_at hl 0 rfl) ?_
    refine lv_iconst (v := 1) hx hb dX12_askedOf_81 (by decide) ?_
    refine lv_iadd hx hb dX12_askedOf_82 ?_
    obtain ⟨j_9, hj_9, hi_9, h⟩ := ck_some h
    refine gx_iald S hK hw tq j_9 hj_9 hi_9 dX12_askedOf_83 ?_
    obtain ⟨rfl, rfl, rfl⟩ := sm_inj h
    exact gx_ri (post := gq_p (σ q j_9) σ τ) (v := σ q j_9) S hr hlk hw rfl dX12_askedOf_84 ⟨rfl, rfl, rfl⟩
  rw [if_neg c_8] at h
  by_cases c_10 : x3 = 5
  · rw [if_pos c_10] at h
    refine gx_top (v := 5) c_10 ?_
    refine lv_tableIn (tgt := 85) hx hb dX12_askedOf_7 (by decide) (by decide) rfl (by decide) ?_
    refine lv_aload_n hx hb dX12_askedOf_85 rfl (lv_at hl 2 rfl) ?_
    refine lv_iload hx hb dX12_askedOf_86 (lv_at hl 0 rfl) ?_
    refine lv_iconst (v := 2) hx hb dX12_askedOf_88 (by decide) ?_
    refine lv_iadd hx hb dX12_askedOf_89 ?_
    obtain ⟨j_11, hj_11, hi_11, h⟩ := ck_some h
    refine gx_iald S hK hw tq j_11 hj_11 hi_11 dX12_askedOf_90 ?_
    obtain ⟨rfl, rfl, rfl⟩ := sm_inj h
    exact gx_ri (post := gq_p (σ q j_11) σ τ) (v := σ q j_11) S hr hlk hw rfl dX12_askedOf_91 ⟨rfl, rfl, rfl⟩
  rw [if_neg c_10] at h
  by_cases c_12 : x3 = 6
  · rw [if_pos c_12] at h
    refine gx_top (v := 6) c_12 ?_
    refine lv_tableIn (tgt := 92) hx hb dX12_askedOf_7 (by decide) (by decide) rfl (by decide) ?_
    refine lv_aload_n hx hb dX12_askedOf_92 rfl (lv_at hl 2 rfl) ?_
    refine lv_iload_n hx hb dX12_askedOf_93 rfl (lv_at hl 3 rfl) ?_
    obtain ⟨r_13, σ_13, τ_13, q_13, h⟩ := bd_some h
    refine gx_cSi (As := [.ref (E.2.2 + q), .int x2]) (rest := []) S hK gx_ok hw (c_X12_othersAt l (E := E) N q tq σ τ x2 q_13) cw_X12_271 ⟨Nat.le_of_ble_eq_true rfl, Nat.le_of_ble_eq_true rfl⟩ rfl hl.1 rfl (Nat.le_of_ble_eq_true rfl) ⟨Nat.le_of_ble_eq_true rfl, Nat.le_of_ble_eq_true rfl⟩ dX12_askedOf_94 (fun r9 σ9 τ9 H locs hp hw => ?_)
    obtain ⟨rfl, rfl, rfl⟩ := hp
    obtain ⟨rfl, rfl, rfl⟩ := sm_inj h
    exact gx_ri (post := gq_p r_13 σ_13 τ_13) (v := r_13) S hr hlk hw rfl dX12_askedOf_97 ⟨rfl, rfl, rfl⟩
  rw [if_neg c_12] at h
  refine lv_tableOut (tgt := 98) hx hb dX12_askedOf_7 (by have t_2 := lv_neT (a := 0) c_2 rfl; have t_4 := lv_neT (a := 1) c_4 rfl; have t_5 := lv_neT (a := 2) c_5 rfl; have t_7 := lv_neT (a := 3) c_7 rfl; have t_8 := lv_neT (a := 4) c_8 rfl; have t_10 := lv_neT (a := 5) c_10 rfl; have t_12 := lv_neT (a := 6) c_12 rfl; omega) (by decide) ?_
  refine lv_aload_n hx hb dX12_askedOf_98 rfl (lv_at hl 2 rfl) ?_
  refine lv_iload hx hb dX12_askedOf_99 (lv_at hl 0 rfl) ?_
  refine lv_iconst (v := 0) hx hb dX12_askedOf_101 (by decide) ?_
  refine lv_iadd hx hb dX12_askedOf_102 ?_
  obtain ⟨j_14, hj_14, hi_14, h⟩ := ck_some h
  refine gx_iald S hK hw tq j_14 hj_14 hi_14 dX12_askedOf_103 ?_
  obtain ⟨rfl, rfl, rfl⟩ := sm_inj h
  exact gx_ri (post := gq_p (σ q j_14) σ τ) (v := σ q j_14) S hr hlk hw rfl dX12_askedOf_104 ⟨rfl, rfl, rfl⟩
set_option maxHeartbeats 4000000 in
set_option maxRecDepth 100000 in
theorem c_X12_askedOf (l : Launch) {E : gE} (N : Nat) (q : Nat) (tq : gx_tb[q]? = some (.inr (0, 45, []))) (σ : gI) (τ : gJ) (x2 : Int32) (x3 : Int32) {r : Int32} {σ1 : gI} {τ1 : gJ} (h : B_X12_askedOf_0 N q σ τ x2 x3 = some (r, σ1, τ1)) : gx_Mi l yX12_askedOf cX12_askedOf 5 (some .int) 2 gx_tb E σ τ [.ref (E.2.2 + 199), .ref (E.2.2 + q), .int x2, .int x3] (gq_p r σ1 τ1) := by
  refine gx_bi (by decide +kernel) (Nat.le_of_ble_eq_true rfl) ?_
  intro P9 e9 s m9 below meth C9 S hr hlk hK hw ls hl
  have hl : lv_has ls 5 [(0, .ref (E.2.2 + 199)), (1, .ref (E.2.2 + q)), (2, .int x2), (3, .int x3)] := hl
  exact b_X12_askedOf_0 l S hr hlk hK N q tq σ τ x2 x3 h hw hl
/-! X12_isPlace -/
def B_X12_isPlace_0 (N : Nat) (σ : gI) (τ : gJ) (x1 : Int32) : Option (Int32 × gI × gJ) := bd (B_X12_in_0 N σ τ x1.toInt64 0 (((σ 199 3) - 1).toInt64)) fun r_1 σ_1 τ_1 => cb r_1 <| some (r_1, σ_1, τ_1)
set_option maxHeartbeats 4000000 in
set_option maxRecDepth 100000 in
theorem b_X12_isPlace_0 (l : Launch) (S : CallFix P9 m9 C9 cX12_isPlace 2 s av.toArray gx_G RX12) (hr : meth.sig.returnType = (some .boolean)) (hlk : meth.locks = false) (hK : gx_K E s) (N : Nat) (σ : gI) (τ : gJ) (x1 : Int32) {r : Int32} {σ1 : gI} {τ1 : gJ} (h : B_X12_isPlace_0 N σ τ x1 = some (r, σ1, τ1)) {H : Heap} {locs : List Loc} {ls : Array Slot} (hw : gx_W gx_tb gx_tb.length E s σ τ H locs) (hl : lv_has ls 2 [(0, .ref (E.2.2 + 199)), (1, .int x1)]) : W P9 l e9 (gx_rm 1) s m9 av.toArray below meth C9 H locs 0 0 (gq_Qi below av s E r σ1 τ1) (F0 m9 0 ls []) := by
  have hx := S.1
  have hb := S.2.1
  unfold B_X12_isPlace_0 at h
  refine lv_iload_n hx hb dX12_isPlace_0 rfl (lv_at hl 1 rfl) ?_
  refine lv_i2l (v := x1.toInt64) hx hb dX12_isPlace_1 rfl ?_
  refine lv_lconst (v := 0) hx hb dX12_isPlace_2 (by decide) ?_
  refine lv_aload_n hx hb dX12_isPlace_3 rfl (lv_at hl 0 rfl) ?_
  refine gx_get S hK hw t_199 cl_13 3 (by decide) rfl mw_1417 rfl dX12_isPlace_4 ?_
  refine lv_iconst (v := 1) hx hb dX12_isPlace_7 (by decide) ?_
  refine lv_isub hx hb dX12_isPlace_8 ?_
  refine lv_i2l (v := ((σ 199 3) - 1).toInt64) hx hb dX12_isPlace_9 rfl ?_
  obtain ⟨r_1, σ_1, τ_1, q_1, h⟩ := bd_some h
  refine gx_cSi (As := [.long x1.toInt64, .long 0, .long (((σ 199 3) - 1).toInt64)]) (rest := []) S hK gx_ok hw (c_X12_in l (E := E) N σ τ x1.toInt64 0 (((σ 199 3) - 1).toInt64) q_1) cw_X12_129 ⟨Nat.le_of_ble_eq_true rfl, Nat.le_of_ble_eq_true rfl⟩ rfl hl.1 rfl (Nat.le_of_ble_eq_true rfl) ⟨Nat.le_of_ble_eq_true rfl, Nat.le_of_ble_eq_true rfl⟩ dX12_isPlace_10 (fun r9 σ9 τ9 H locs hp hw => ?_)
  obtain ⟨rfl, rfl, rfl⟩ := hp
  obtain ⟨hq_2, h⟩ := cb_some h
  obtain ⟨rfl, rfl, rfl⟩ := sm_inj h
  exact gx_ri (post := gq_p r_1 σ_1 τ_1) (v := r_1) S hr hlk hw (cb_nar hq_2) dX12_isPlace_13 ⟨rfl, rfl, rfl⟩
set_option maxHeartbeats 4000000 in
set_option maxRecDepth 100000 in
theorem c_X12_isPlace (l : Launch) {E : gE} (N : Nat) (σ : gI) (τ : gJ) (x1 : Int32) {r : Int32} {σ1 : gI} {τ1 : gJ} (h : B_X12_isPlace_0 N σ τ x1 = some (r, σ1, τ1)) : gx_Mi l yX12_isPlace cX12_isPlace 2 (some .boolean) 1 gx_tb E σ τ [.ref (E.2.2 + 199), .int x1] (gq_p r σ1 τ1) := by
  refine gx_bi (by decide +kernel) (Nat.le_of_ble_eq_true rfl) ?_
  intro P9 e9 s m9 below meth C9 S hr hlk hK hw ls hl
  have hl : lv_has ls 2 [(0, .ref (E.2.2 + 199)), (1, .int x1)] := hl
  exact b_X12_isPlace_0 l S hr hlk hK N σ τ x1 h hw hl
/-! X12_canPut -/
def B_X12_canPut_0 (N : Nat) (σ : gI) (τ : gJ) (x1 : Int32) (x2 : Int32) (x3 : Int32) : Option (Int32 × gI × gJ) := bd (B_X12_isPlace_0 N σ τ x1) fun r_1 σ_1 τ_1 => if r_1 = 0 then (some (0, σ_1, τ_1)) else (bd (B_X12_in_0 N σ_1 τ_1 x2.toInt64 0 99) fun r_3 σ_3 τ_3 => if r_3 = 0 then (some (0, σ_3, τ_3)) else (bd (B_X12_in_0 N σ_3 τ_3 x3.toInt64 0 9) fun r_5 σ_5 τ_5 => if r_5 = 0 then (some (0, σ_5, τ_5)) else (some (1, σ_5, τ_5))))
set_option maxHeartbeats 4000000 in
set_option maxRecDepth 100000 in
theorem b_X12_canPut_0 (l : Launch) (S : CallFix P9 m9 C9 cX12_canPut 4 s av.toArray gx_G RX12) (hr : meth.sig.returnType = (some .boolean)) (hlk : meth.locks = false) (hK : gx_K E s) (N : Nat) (σ : gI) (τ : gJ) (x1 : Int32) (x2 : Int32) (x3 : Int32) {r : Int32} {σ1 : gI} {τ1 : gJ} (h : B_X12_canPut_0 N σ τ x1 x2 x3 = some (r, σ1, τ1)) {H : Heap} {locs : List Loc} {ls : Array Slot} (hw : gx_W gx_tb gx_tb.length E s σ τ H locs) (hl : lv_has ls 4 [(0, .ref (E.2.2 + 199)), (1, .int x1), (2, .int x2), (3, .int x3)]) : W P9 l e9 (gx_rm 2) s m9 av.toArray below meth C9 H locs 0 0 (gq_Qi below av s E r σ1 τ1) (F0 m9 0 ls []) := by
  have hx := S.1
  have hb := S.2.1
  unfold B_X12_canPut_0 at h
  refine lv_aload_n hx hb dX12_canPut_0 rfl (lv_at hl 0 rfl) ?_
  refine lv_iload_n hx hb dX12_canPut_1 rfl (lv_at hl 1 rfl) ?_
  obtain ⟨r_1, σ_1, τ_1, q_1, h⟩ := bd_some h
  refine gx_cVi (As := [.int x1]) (rest := []) S hK gx_ok hw (c_X12_isPlace l (E := E) N σ τ x1 q_1) cw_X12_133 t_199 cl_13 ⟨Nat.le_of_ble_eq_true rfl, Nat.le_of_ble_eq_true rfl⟩ rfl hl.1 rfl (Nat.le_of_ble_eq_true rfl) ⟨Nat.le_of_ble_eq_true rfl, Nat.le_of_ble_eq_true rfl⟩ dX12_canPut_2 (fun r9 σ9 τ9 H locs hp hw => ?_)
  obtain ⟨rfl, rfl, rfl⟩ := hp
  refine lv_if_eq (tgt := 36) hx hb dX12_canPut_5 (by decide) (fun c_2 => ?_) (fun c_2 => ?_)
  · rw [if_pos c_2] at h
    refine lv_iconst (v := 0) hx hb dX12_canPut_36 (by decide) ?_
    obtain ⟨rfl, rfl, rfl⟩ := sm_inj h
    exact gx_ri (post := gq_p 0 σ_1 τ_1) (v := 0) S hr hlk hw rfl dX12_canPut_37 ⟨rfl, rfl, rfl⟩
  · rw [if_neg c_2] at h
    refine lv_iload_n hx hb dX12_canPut_8 rfl (lv_at hl 2 rfl) ?_
    refine lv_i2l (v := x2.toInt64) hx hb dX12_canPut_9 rfl ?_
    refine lv_lconst (v := 0) hx hb dX12_canPut_10 (by decide) ?_
    refine lv_ldc2 (v := 99) hx hb S.2.2.2.1 (S.2.2.2.2 _ mw_1853) dX12_canPut_11 ?_
    obtain ⟨r_3, σ_3, τ_3, q_3, h⟩ := bd_some h
    refine gx_cSi (As := [.long x2.toInt64, .long 0, .long 99]) (rest := []) S hK gx_ok hw (c_X12_in l (E := E) N σ_1 τ_1 x2.toInt64 0 99 q_3) cw_X12_129 ⟨Nat.le_of_ble_eq_true rfl, Nat.le_of_ble_eq_true rfl⟩ rfl hl.1 rfl (Nat.le_of_ble_eq_true rfl) ⟨Nat.le_of_ble_eq_true rfl, Nat.le_of_ble_eq_true rfl⟩ dX12_canPut_14 (fun r9 σ9 τ9 H locs hp hw => ?_)
    obtain ⟨rfl, rfl, rfl⟩ := hp
    refine lv_if_eq (tgt := 36) hx hb dX12_canPut_17 (by decide) (fun c_4 => ?_) (fun c_4 => ?_)
    · rw [if_pos c_4] at h
      refine lv_iconst (v := 0) hx hb dX12_canPut_36 (by decide) ?_
      obtain ⟨rfl, rfl, rfl⟩ := sm_inj h
      exact gx_ri (post := gq_p 0 σ_3 τ_3) (v := 0) S hr hlk hw rfl dX12_canPut_37 ⟨rfl, rfl, rfl⟩
    · rw [if_neg c_4] at h
      refine lv_iload_n hx hb dX12_canPut_20 rfl (lv_at hl 3 rfl) ?_
      refine lv_i2l (v := x3.toInt64) hx hb dX12_canPut_21 rfl ?_
      refine lv_lconst (v := 0) hx hb dX12_canPut_22 (by decide) ?_
      refine lv_ldc2 (v := 9) hx hb S.2.2.2.1 (S.2.2.2.2 _ mw_1854) dX12_canPut_23 ?_
      obtain ⟨r_5, σ_5, τ_5, q_5, h⟩ := bd_some h
      refine gx_cSi (As := [.long x3.toInt64, .long 0, .long 9]) (rest := []) S hK gx_ok hw (c_X12_in l (E := E) N σ_3 τ_3 x3.toInt64 0 9 q_5) cw_X12_129 ⟨Nat.le_of_ble_eq_true rfl, Nat.le_of_ble_eq_true rfl⟩ rfl hl.1 rfl (Nat.le_of_ble_eq_true rfl) ⟨Nat.le_of_ble_eq_true rfl, Nat.le_of_ble_eq_true rfl⟩ dX12_canPut_26 (fun r9 σ9 τ9 H locs hp hw => ?_)
      obtain ⟨rfl, rfl, rfl⟩ := hp
      refine lv_if_eq (tgt := 36) hx hb dX12_canPut_29 (by decide) (fun c_6 => ?_) (fun c_6 => ?_)
      · rw [if_pos c_6] at h
        refine lv_iconst (v := 0) hx hb dX12_canPut_36 (by decide) ?_
        obtain ⟨rfl, rfl, rfl⟩ := sm_inj h
        exact gx_ri (post := gq_p 0 σ_5 τ_5) (v := 0) S hr hlk hw rfl dX12_canPut_37 ⟨rfl, rfl, rfl⟩
      · rw [if_neg c_6] at h
        refine lv_iconst (v := 1) hx hb dX12_canPut_32 (by decide) ?_
        refine lv_goto (tgt := 37) hx hb dX12_canPut_33 (by decide) ?_
        obtain ⟨rfl, rfl, rfl⟩ := sm_inj h
        exact gx_ri (post := gq_p 1 σ_5 τ_5) (v := 1) S hr hlk hw rfl dX12_canPut_37 ⟨rfl, rfl, rfl⟩
set_option maxHeartbeats 4000000 in
set_option maxRecDepth 100000 in
theorem c_X12_canPut (l : Launch) {E : gE} (N : Nat) (σ : gI) (τ : gJ) (x1 : Int32) (x2 : Int32) (x3 : Int32) {r : Int32} {σ1 : gI} {τ1 : gJ} (h : B_X12_canPut_0 N σ τ x1 x2 x3 = some (r, σ1, τ1)) : gx_Mi l yX12_canPut cX12_canPut 4 (some .boolean) 2 gx_tb E σ τ [.ref (E.2.2 + 199), .int x1, .int x2, .int x3] (gq_p r σ1 τ1) := by
  refine gx_bi (by decide +kernel) (Nat.le_of_ble_eq_true rfl) ?_
  intro P9 e9 s m9 below meth C9 S hr hlk hK hw ls hl
  have hl : lv_has ls 4 [(0, .ref (E.2.2 + 199)), (1, .int x1), (2, .int x2), (3, .int x3)] := hl
  exact b_X12_canPut_0 l S hr hlk hK N σ τ x1 x2 x3 h hw hl
/-! X12_isKitchen -/
def B_X12_isKitchen_0 (N : Nat) (σ : gI) (τ : gJ) (x1 : Int32) : Option (Int32 × gI × gJ) := bd (B_X12_isPlace_0 N σ τ x1) fun r_1 σ_1 τ_1 => if r_1 = 0 then (some (0, σ_1, τ_1)) else (ck x1 12 fun j_3 => if σ_1 201 j_3 = 6 then (some (1, σ_1, τ_1)) else (some (0, σ_1, τ_1)))
set_option maxHeartbeats 4000000 in
set_option maxRecDepth 100000 in
theorem b_X12_isKitchen_0 (l : Launch) (S : CallFix P9 m9 C9 cX12_isKitchen 2 s av.toArray gx_G RX12) (hr : meth.sig.returnType = (some .boolean)) (hlk : meth.locks = false) (hK : gx_K E s) (N : Nat) (σ : gI) (τ : gJ) (x1 : Int32) {r : Int32} {σ1 : gI} {τ1 : gJ} (h : B_X12_isKitchen_0 N σ τ x1 = some (r, σ1, τ1)) {H : Heap} {locs : List Loc} {ls : Array Slot} (hw : gx_W gx_tb gx_tb.length E s σ τ H locs) (hl : lv_has ls 2 [(0, .ref (E.2.2 + 199)), (1, .int x1)]) : W P9 l e9 (gx_rm 2) s m9 av.toArray below meth C9 H locs 0 0 (gq_Qi below av s E r σ1 τ1) (F0 m9 0 ls []) := by
  have hx := S.1
  have hb := S.2.1
  unfold B_X12_isKitchen_0 at h
  refine lv_aload_n hx hb dX12_isKitchen_0 rfl (lv_at hl 0 rfl) ?_
  refine lv_iload_n hx hb dX12_isKitchen_1 rfl (lv_at hl 1 rfl) ?_
  obtain ⟨r_1, σ_1, τ_1, q_1, h⟩ := bd_some h
  refine gx_cVi (As := [.int x1]) (rest := []) S hK gx_ok hw (c_X12_isPlace l (E := E) N σ τ x1 q_1) cw_X12_133 t_199 cl_13 ⟨Nat.le_of_ble_eq_true rfl, Nat.le_of_ble_eq_true rfl⟩ rfl hl.1 rfl (Nat.le_of_ble_eq_true rfl) ⟨Nat.le_of_ble_eq_true rfl, Nat.le_of_ble_eq_true rfl⟩ dX12_isKitchen_2 (fun r9 σ9 τ9 H locs hp hw => ?_)
  obtain ⟨rfl, rfl, rfl⟩ := hp
  refine lv_if_eq (tgt := 23) hx hb dX12_isKitchen_5 (by decide) (fun c_2 => ?_) (fun c_2 => ?_)
  · rw [if_pos c_2] at h
    refine lv_iconst (v := 0) hx hb dX12_isKitchen_23 (by decide) ?_
    obtain ⟨rfl, rfl, rfl⟩ := sm_inj h
    exact gx_ri (post := gq_p 0 σ_1 τ_1) (v := 0) S hr hlk hw rfl dX12_isKitchen_24 ⟨rfl, rfl, rfl⟩
  · rw [if_neg c_2] at h
    refine lv_aload_n hx hb dX12_isKitchen_8 rfl (lv_at hl 0 rfl) ?_
    refine gx_getr (j := 201) S hK hw t_199 cl_13 5 (by decide) rfl mw_1419 rfl dX12_isKitchen_9 ?_
    refine lv_iload_n hx hb dX12_isKitchen_12 rfl (lv_at hl 1 rfl) ?_
    obtain ⟨j_3, hj_3, hi_3, h⟩ := ck_some h
    refine gx_iald S hK hw t_201 j_3 hj_3 hi_3 dX12_isKitchen_13 ?_
    refine lv_bipush (v := 6) hx hb dX12_isKitchen_14 (by decide) ?_
    refine lv_icmp_ne (tgt := 23) hx hb dX12_isKitchen_16 (by decide) (fun c_4 => ?_) (fun c_4 => ?_)
    · rw [if_neg c_4] at h
      refine lv_iconst (v := 0) hx hb dX12_isKitchen_23 (by decide) ?_
      obtain ⟨rfl, rfl, rfl⟩ := sm_inj h
      exact gx_ri (post := gq_p 0 σ_1 τ_1) (v := 0) S hr hlk hw rfl dX12_isKitchen_24 ⟨rfl, rfl, rfl⟩
    · rw [if_pos c_4] at h
      refine lv_iconst (v := 1) hx hb dX12_isKitchen_19 (by decide) ?_
      refine lv_goto (tgt := 24) hx hb dX12_isKitchen_20 (by decide) ?_
      obtain ⟨rfl, rfl, rfl⟩ := sm_inj h
      exact gx_ri (post := gq_p 1 σ_1 τ_1) (v := 1) S hr hlk hw rfl dX12_isKitchen_24 ⟨rfl, rfl, rfl⟩
set_option maxHeartbeats 4000000 in
set_option maxRecDepth 100000 in
theorem c_X12_isKitchen (l : Launch) {E : gE} (N : Nat) (σ : gI) (τ : gJ) (x1 : Int32) {r : Int32} {σ1 : gI} {τ1 : gJ} (h : B_X12_isKitchen_0 N σ τ x1 = some (r, σ1, τ1)) : gx_Mi l yX12_isKitchen cX12_isKitchen 2 (some .boolean) 2 gx_tb E σ τ [.ref (E.2.2 + 199), .int x1] (gq_p r σ1 τ1) := by
  refine gx_bi (by decide +kernel) (Nat.le_of_ble_eq_true rfl) ?_
  intro P9 e9 s m9 below meth C9 S hr hlk hK hw ls hl
  have hl : lv_has ls 2 [(0, .ref (E.2.2 + 199)), (1, .int x1)] := hl
  exact b_X12_isKitchen_0 l S hr hlk hK N σ τ x1 h hw hl
/-! X12_canSail -/
def B_X12_canSail_0 (N : Nat) (σ : gI) (τ : gJ) (x1 : Int32) (x2 : Int32) (x3 : Int32) (x4 : Int32) : Option (Int32 × gI × gJ) := bd (B_X12_canPut_0 N σ τ x1 x2 x3) fun r_1 σ_1 τ_1 => if r_1 = 0 then (some (0, σ_1, τ_1)) else (bd (B_X12_isKitchen_0 N σ_1 τ_1 x4) fun r_3 σ_3 τ_3 => if r_3 = 0 then (some (0, σ_3, τ_3)) else (some (1, σ_3, τ_3)))
set_option maxHeartbeats 4000000 in
set_option maxRecDepth 100000 in
theorem b_X12_canSail_0 (l : Launch) (S : CallFix P9 m9 C9 cX12_canSail 5 s av.toArray gx_G RX12) (hr : meth.sig.returnType = (some .boolean)) (hlk : meth.locks = false) (hK : gx_K E s) (N : Nat) (σ : gI) (τ : gJ) (x1 : Int32) (x2 : Int32) (x3 : Int32) (x4 : Int32) {r : Int32} {σ1 : gI} {τ1 : gJ} (h : B_X12_canSail_0 N σ τ x1 x2 x3 x4 = some (r, σ1, τ1)) {H : Heap} {locs : List Loc} {ls : Array Slot} (hw : gx_W gx_tb gx_tb.length E s σ τ H locs) (hl : lv_has ls 5 [(0, .ref (E.2.2 + 199)), (1, .int x1), (2, .int x2), (3, .int x3), (4, .int x4)]) : W P9 l e9 (gx_rm 3) s m9 av.toArray below meth C9 H locs 0 0 (gq_Qi below av s E r σ1 τ1) (F0 m9 0 ls []) := by
  have hx := S.1
  have hb := S.2.1
  unfold B_X12_canSail_0 at h
  refine lv_aload_n hx hb dX12_canSail_0 rfl (lv_at hl 0 rfl) ?_
  refine lv_iload_n hx hb dX12_canSail_1 rfl (lv_at hl 1 rfl) ?_
  refine lv_iload_n hx hb dX12_canSail_2 rfl (lv_at hl 2 rfl) ?_
  refine lv_iload_n hx hb dX12_canSail_3 rfl (lv_at hl 3 rfl) ?_
  obtain ⟨r_1, σ_1, τ_1, q_1, h⟩ := bd_some h
  refine gx_cVi (As := [.int x1, .int x2, .int x3]) (rest := []) S hK gx_ok hw (c_X12_canPut l (E := E) N σ τ x1 x2 x3 q_1) cw_X12_331 t_199 cl_13 ⟨Nat.le_of_ble_eq_true rfl, Nat.le_of_ble_eq_true rfl⟩ rfl hl.1 rfl (Nat.le_of_ble_eq_true rfl) ⟨Nat.le_of_ble_eq_true rfl, Nat.le_of_ble_eq_true rfl⟩ dX12_canSail_4 (fun r9 σ9 τ9 H locs hp hw => ?_)
  obtain ⟨rfl, rfl, rfl⟩ := hp
  refine lv_if_eq (tgt := 23) hx hb dX12_canSail_7 (by decide) (fun c_2 => ?_) (fun c_2 => ?_)
  · rw [if_pos c_2] at h
    refine lv_iconst (v := 0) hx hb dX12_canSail_23 (by decide) ?_
    obtain ⟨rfl, rfl, rfl⟩ := sm_inj h
    exact gx_ri (post := gq_p 0 σ_1 τ_1) (v := 0) S hr hlk hw rfl dX12_canSail_24 ⟨rfl, rfl, rfl⟩
  · rw [if_neg c_2] at h
    refine lv_aload_n hx hb dX12_canSail_10 rfl (lv_at hl 0 rfl) ?_
    refine lv_iload hx hb dX12_canSail_11 (lv_at hl 4 rfl) ?_
    obtain ⟨r_3, σ_3, τ_3, q_3, h⟩ := bd_some h
    refine gx_cVi (As := [.int x4]) (rest := []) S hK gx_ok hw (c_X12_isKitchen l (E := E) N σ_1 τ_1 x4 q_3) cw_X12_402 t_199 cl_13 ⟨Nat.le_of_ble_eq_true rfl, Nat.le_of_ble_eq_true rfl⟩ rfl hl.1 rfl (Nat.le_of_ble_eq_true rfl) ⟨Nat.le_of_ble_eq_true rfl, Nat.le_of_ble_eq_true rfl⟩ dX12_canSail_13 (fun r9 σ9 τ9 H locs hp hw => ?_)
    obtain ⟨rfl, rfl, rfl⟩ := hp
    refine lv_if_eq (tgt := 23) hx hb dX12_canSail_16 (by decide) (fun c_4 => ?_) (fun c_4 => ?_)
    · rw [if_pos c_4] at h
      refine lv_iconst (v := 0) hx hb dX12_canSail_23 (by decide) ?_
      obtain ⟨rfl, rfl, rfl⟩ := sm_inj h
      exact gx_ri (post := gq_p 0 σ_3 τ_3) (v := 0) S hr hlk hw rfl dX12_canSail_24 ⟨rfl, rfl, rfl⟩
    · rw [if_neg c_4] at h
      refine lv_iconst (v := 1) hx hb dX12_canSail_19 (by decide) ?_
      refine lv_goto (tgt := 24) hx hb dX12_canSail_20 (by decide) ?_
      obtain ⟨rfl, rfl, rfl⟩ := sm_inj h
      exact gx_ri (post := gq_p 1 σ_3 τ_3) (v := 1) S hr hlk hw rfl dX12_canSail_24 ⟨rfl, rfl, rfl⟩
set_option maxHeartbeats 4000000 in
set_option maxRecDepth 100000 in
theorem c_X12_canSail (l : Launch) {E : gE} (N : Nat) (σ : gI) (τ : gJ) (x1 : Int32) (x2 : Int32) (x3 : Int32) (x4 : Int32) {r : Int32} {σ1 : gI} {τ1 : gJ} (h : B_X12_canSail_0 N σ τ x1 x2 x3 x4 = some (r, σ1, τ1)) : gx_Mi l yX12_canSail cX12_canSail 5 (some .boolean) 3 gx_tb E σ τ [.ref (E.2.2 + 199), .int x1, .int x2, .int x3, .int x4] (gq_p r σ1 τ1) := by
  refine gx_bi (by decide +kernel) (Nat.le_of_ble_eq_true rfl) ?_
  intro P9 e9 s m9 below meth C9 S hr hlk hK hw ls hl
  have hl : lv_has ls 5 [(0, .ref (E.2.2 + 199)), (1, .int x1), (2, .int x2), (3, .int x3), (4, .int x4)] := hl
  exact b_X12_canSail_0 l S hr hlk hK N σ τ x1 x2 x3 x4 h hw hl
/-! X12_thinksNow -/
def B_X12_thinksNow_0 (N : Nat) (σ : gI) (τ : gJ) : Option (Unit × gI × gJ) := nm (up2 σ 199 45 (σ 206 42)) fun σ_1 => nm (up2 σ_1 199 46 (σ_1 206 43)) fun σ_2 => some ((), σ_2, τ)
set_option maxHeartbeats 4000000 in
set_option maxRecDepth 100000 in
theorem b_X12_thinksNow_0 (l : Launch) (S : CallFix P9 m9 C9 cX12_thinksNow 1 s av.toArray gx_G RX12) (hr : meth.sig.returnType = none) (hlk : meth.locks = false) (hK : gx_K E s) (N : Nat) (σ : gI) (τ : gJ) {r : Unit} {σ1 : gI} {τ1 : gJ} (h : B_X12_thinksNow_0 N σ τ = some (r, σ1, τ1)) {H : Heap} {locs : List Loc} {ls : Array Slot} (hw : gx_W gx_tb gx_tb.length E s σ τ H locs) (hl : lv_has ls 1 [(0, .ref (E.2.2 + 199))]) : W P9 l e9 (gx_rm 0) s m9 av.toArray below meth C9 H locs 0 0 (gq_Qv below av s E σ1 τ1) (F0 m9 0 ls []) := by
  have hx := S.1
  have hb := S.2.1
  unfold B_X12_thinksNow_0 at h
  refine lv_aload_n hx hb dX12_thinksNow_0 rfl (lv_at hl 0 rfl) ?_
  refine lv_aload_n hx hb dX12_thinksNow_1 rfl (lv_at hl 0 rfl) ?_
  refine gx_getr (j := 206) S hK hw t_199 cl_13 10 (by decide) rfl mw_1424 rfl dX12_thinksNow_2 ?_
  refine lv_bipush (v := 42) hx hb dX12_thinksNow_5 (by decide) ?_
  refine gx_iald S hK hw t_206 42 rfl (gx_in rfl (by decide) (by decide)) dX12_thinksNow_7 ?_
  refine gx_put S hK gx_ok hw t_199 cl_13 45 (by decide) rfl mw_1459 rfl rfl (ty := .int) (v := σ 206 42) (by decide +kernel) rfl rfl dX12_thinksNow_8 (fun H locs hw => ?_)
  obtain ⟨σ_1, e_1, h⟩ := nm_some h
  rw [← e_1] at hw
  refine lv_aload_n hx hb dX12_thinksNow_11 rfl (lv_at hl 0 rfl) ?_
  refine lv_aload_n hx hb dX12_thinksNow_12 rfl (lv_at hl 0 rfl) ?_
  refine gx_getr (j := 206) S hK hw t_199 cl_13 10 (by decide) rfl mw_1424 rfl dX12_thinksNow_13 ?_
  refine lv_bipush (v := 43) hx hb dX12_thinksNow_16 (by decide) ?_
  refine gx_iald S hK hw t_206 43 rfl (gx_in rfl (by decide) (by decide)) dX12_thinksNow_18 ?_
  refine gx_put S hK gx_ok hw t_199 cl_13 46 (by decide) rfl mw_1460 rfl rfl (ty := .int) (v := σ_1 206 43) (by decide +kernel) rfl rfl dX12_thinksNow_19 (fun H locs hw => ?_)
  obtain ⟨σ_2, e_2, h⟩ := nm_some h
  rw [← e_2] at hw
  obtain ⟨-, rfl, rfl⟩ := sm_inj h
  exact gx_rv (post := gq_v σ_2 τ) S hr hlk hw dX12_thinksNow_22 ⟨rfl, rfl⟩
set_option maxHeartbeats 4000000 in
set_option maxRecDepth 100000 in
theorem c_X12_thinksNow (l : Launch) {E : gE} (N : Nat) (σ : gI) (τ : gJ) {r : Unit} {σ1 : gI} {τ1 : gJ} (h : B_X12_thinksNow_0 N σ τ = some (r, σ1, τ1)) : gx_Mv l yX12_thinksNow cX12_thinksNow 1 none 0 gx_tb E σ τ [.ref (E.2.2 + 199)] (gq_v σ1 τ1) := by
  refine gx_bv (by decide +kernel) (Nat.le_of_ble_eq_true rfl) ?_
  intro P9 e9 s m9 below meth C9 S hr hlk hK hw ls hl
  have hl : lv_has ls 1 [(0, .ref (E.2.2 + 199))] := hl
  exact b_X12_thinksNow_0 l S hr hlk hK N σ τ h hw hl
/-! X12_lays -/
def B_X12_lays_59 (N : Nat) (q : Nat) (σ : gI) (τ : gJ) (x3 : Int32) (x6 : Int32) (x7 : Int32) (y0 : Int32) (y1 : Int32) : Option (Unit × gI × gJ) := ck y1 45 fun j_1 => nm (up2 σ q j_1 y0) fun σ_2 => ck (x7 + 5) 45 fun j_3 => nm (up2 σ_2 q j_3 ((σ_2 q 43) + x6)) fun σ_4 => ck x3 12 fun j_5 => if σ_4 201 j_5 = 6 then (ck (x7 + 6) 45 fun j_9 => nm (up2 σ_4 q j_9 (σ_4 q 43)) fun σ_10 => some ((), σ_10, τ)) else (ck (x7 + 6) 45 fun j_7 => nm (up2 σ_4 q j_7 (-1)) fun σ_8 => some ((), σ_8, τ))
def B_X12_lays_0 (N : Nat) (q : Nat) (σ : gI) (τ : gJ) (x2 : Int32) (x3 : Int32) (x4 : Int32) (x5 : Int32) (x6 : Int32) : Option (Unit × gI × gJ) := nm (7 * x2) fun v_1 => ck (v_1 + 0) 45 fun j_2 => nm (up2 σ q j_2 x3) fun σ_3 => ck (v_1 + 1) 45 fun j_4 => nm (up2 σ_3 q j_4 x4) fun σ_5 => ck (v_1 + 2) 45 fun j_6 => nm (up2 σ_5 q j_6 x5) fun σ_7 => ck (v_1 + 3) 45 fun j_8 => nm (up2 σ_7 q j_8 (1 <<< (x3 &&& 31))) fun σ_9 => ck x3 12 fun j_10 => if σ_9 201 j_10 = 6 then (B_X12_lays_59 N q σ_9 τ x3 x6 v_1 1 (v_1 + 4)) else (B_X12_lays_59 N q σ_9 τ x3 x6 v_1 0 (v_1 + 4))
set_option maxHeartbeats 4000000 in
set_option maxRecDepth 100000 in
theorem b_X12_lays_59 (l : Launch) (S : CallFix P9 m9 C9 cX12_lays 8 s av.toArray gx_G RX12) (hr : meth.sig.returnType = none) (hlk : meth.locks = false) (hK : gx_K E s) (N : Nat) (q : Nat) (tq : gx_tb[q]? = some (.inr (0, 45, []))) (σ : gI) (τ : gJ) (x3 : Int32) (x6 : Int32) (x7 : Int32) (y0 : Int32) (y1 : Int32) {r : Unit} {σ1 : gI} {τ1 : gJ} (h : B_X12_lays_59 N q σ τ x3 x6 x7 y0 y1 = some (r, σ1, τ1)) {H : Heap} {locs : List Loc} {ls : Array Slot} (hw : gx_W gx_tb gx_tb.length E s σ τ H locs) (hl : lv_has ls 8 [(0, .ref (E.2.2 + 199)), (1, .ref (E.2.2 + q)), (3, .int x3), (6, .int x6), (7, .int x7)]) : W P9 l e9 (gx_rm 0) s m9 av.toArray below meth C9 H locs 0 0 (gq_Qv below av s E σ1 τ1) (F0 m9 59 ls [.int y0, .int y1, .ref (E.2.2 + q)]) := by
  have hx := S.1
  have hb := S.2.1
  unfold B_X12_lays_59 at h
  obtain ⟨j_1, hj_1, hi_1, h⟩ := ck_some h
  refine gx_iast S hK gx_ok hw tq j_1 hj_1 hi_1 dX12_lays_59 (fun H locs hw => ?_)
  obtain ⟨σ_2, e_2, h⟩ := nm_some h
  rw [← e_2] at hw
  refine lv_aload_n hx hb dX12_lays_60 rfl (lv_at hl 1 rfl) ?_
  refine lv_iload hx hb dX12_lays_61 (lv_at hl 4 rfl) ?_
  refine lv_iconst (v := 5) hx hb dX12_lays_63 (by decide) ?_
  refine lv_iadd hx hb dX12_lays_64 ?_
  refine lv_aload_n hx hb dX12_lays_65 rfl (lv_at hl 1 rfl) ?_
  refine lv_bipush (v := 43) hx hb dX12_lays_66 (by decide) ?_
  refine gx_iald S hK hw tq 43 rfl (gx_in rfl (by decide) (by decide)) dX12_lays_68 ?_
  refine lv_iload hx hb dX12_lays_69 (lv_at hl 3 rfl) ?_
  refine lv_iadd hx hb dX12_lays_71 ?_
  obtain ⟨j_3, hj_3, hi_3, h⟩ := ck_some h
  refine gx_iast S hK gx_ok hw tq j_3 hj_3 hi_3 dX12_lays_72 (fun H locs hw => ?_)
  obtain ⟨σ_4, e_4, h⟩ := nm_some h
  rw [← e_4] at hw
  refine lv_aload_n hx hb dX12_lays_73 rfl (lv_at hl 1 rfl) ?_
  refine lv_iload hx hb dX12_lays_74 (lv_at hl 4 rfl) ?_
  refine lv_bipush (v := 6) hx hb dX12_lays_76 (by decide) ?_
  refine lv_iadd hx hb dX12_lays_78 ?_
  refine lv_aload_n hx hb dX12_lays_79 rfl (lv_at hl 0 rfl) ?_
  refine gx_getr (j := 201) S hK hw t_199 cl_13 5 (by decide) rfl mw_1419 rfl dX12_lays_80 ?_
  refine lv_iload_n hx hb dX12_lays_83 rfl (lv_at hl 2 rfl) ?_
  obtain ⟨j_5, hj_5, hi_5, h⟩ := ck_some h
  refine gx_iald S hK hw t_201 j_5 hj_5 hi_5 dX12_lays_84 ?_
  refine lv_bipush (v := 6) hx hb dX12_lays_85 (by decide) ?_
  refine lv_icmp_ne (tgt := 97) hx hb dX12_lays_87 (by decide) (fun c_6 => ?_) (fun c_6 => ?_)
  · rw [if_neg c_6] at h
    refine lv_iconst (v := (-1)) hx hb dX12_lays_97 (by decide) ?_
    obtain ⟨j_7, hj_7, hi_7, h⟩ := ck_some h
    refine gx_iast S hK gx_ok hw tq j_7 hj_7 hi_7 dX12_lays_98 (fun H locs hw => ?_)
    obtain ⟨σ_8, e_8, h⟩ := nm_some h
    rw [← e_8] at hw
    obtain ⟨-, rfl, rfl⟩ := sm_inj h
    exact gx_rv (post := gq_v σ_8 τ) S hr hlk hw dX12_lays_99 ⟨rfl, rfl⟩
  · rw [if_pos c_6] at h
    refine lv_aload_n hx hb dX12_lays_90 rfl (lv_at hl 1 rfl) ?_
    refine lv_bipush (v := 43) hx hb dX12_lays_91 (by decide) ?_
    refine gx_iald S hK hw tq 43 rfl (gx_in rfl (by decide) (by decide)) dX12_lays_93 ?_
    refine lv_goto (tgt := 98) hx hb dX12_lays_94 (by decide) ?_
    obtain ⟨j_9, hj_9, hi_9, h⟩ := ck_some h
    refine gx_iast S hK gx_ok hw tq j_9 hj_9 hi_9 dX12_lays_98 (fun H locs hw => ?_)
    obtain ⟨σ_10, e_10, h⟩ := nm_some h
    rw [← e_10] at hw
    obtain ⟨-, rfl, rfl⟩ := sm_inj h
    exact gx_rv (post := gq_v σ_10 τ) S hr hlk hw dX12_lays_99 ⟨rfl, rfl⟩
set_option maxHeartbeats 4000000 in
set_option maxRecDepth 100000 in
theorem b_X12_lays_0 (l : Launch) (S : CallFix P9 m9 C9 cX12_lays 8 s av.toArray gx_G RX12) (hr : meth.sig.returnType = none) (hlk : meth.locks = false) (hK : gx_K E s) (N : Nat) (q : Nat) (tq : gx_tb[q]? = some (.inr (0, 45, []))) (σ : gI) (τ : gJ) (x2 : Int32) (x3 : Int32) (x4 : Int32) (x5 : Int32) (x6 : Int32) {r : Unit} {σ1 : gI} {τ1 : gJ} (h : B_X12_lays_0 N q σ τ x2 x3 x4 x5 x6 = some (r, σ1, τ1)) {H : Heap} {locs : List Loc} {ls : Array Slot} (hw : gx_W gx_tb gx_tb.length E s σ τ H locs) (hl : lv_has ls 8 [(0, .ref (E.2.2 + 199)), (1, .ref (E.2.2 + q)), (2, .int x2), (3, .int x3), (4, .int x4), (5, .int x5), (6, .int x6)]) : W P9 l e9 (gx_rm 0) s m9 av.toArray below meth C9 H locs 0 0 (gq_Qv below av s E σ1 τ1) (F0 m9 0 ls []) := by
  have hx := S.1
  have hb := S.2.1
  unfold B_X12_lays_0 at h
  refine lv_bipush (v := 7) hx hb dX12_lays_0 (by decide) ?_
  refine lv_iload_n hx hb dX12_lays_2 rfl (lv_at hl 2 rfl) ?_
  refine lv_imul hx hb dX12_lays_3 ?_
  refine lv_istore (lv' := [(7, .int (7 * x2)), (0, .ref (E.2.2 + 199)), (1, .ref (E.2.2 + q)), (2, .int x2), (3, .int x3), (4, .int x4), (5, .int x5), (6, .int x6)]) hx hb dX12_lays_4 hl (by decide) rfl (fun ls hl => ?_)
  obtain ⟨v_1, e_1, h⟩ := nm_some h
  have hl : lv_has ls 8 [(7, .int v_1), (0, .ref (E.2.2 + 199)), (1, .ref (E.2.2 + q)), (2, .int x2), (3, .int x3), (4, .int x4), (5, .int x5), (6, .int x6)] := by rw [e_1]; exact hl
  refine lv_aload_n hx hb dX12_lays_6 rfl (lv_at hl 2 rfl) ?_
  refine lv_iload hx hb dX12_lays_7 (lv_at hl 0 rfl) ?_
  refine lv_iconst (v := 0) hx hb dX12_lays_9 (by decide) ?_
  refine lv_iadd hx hb dX12_lays_10 ?_
  refine lv_iload_n hx hb dX12_lays_11 rfl (lv_at hl 4 rfl) ?_
  obtain ⟨j_2, hj_2, hi_2, h⟩ := ck_some h
  refine gx_iast S hK gx_ok hw tq j_2 hj_2 hi_2 dX12_lays_12 (fun H locs hw => ?_)
  obtain ⟨σ_3, e_3, h⟩ := nm_some h
  rw [← e_3] at hw
  refine lv_aload_n hx hb dX12_lays_13 rfl (lv_at hl 2 rfl) ?_
  refine lv_iload hx hb dX12_lays_14 (lv_at hl 0 rfl) ?_
  refine lv_iconst (v := 1) hx hb dX12_lays_16 (by decide) ?_
  refine lv_iadd hx hb dX12_lays_17 ?_
  refine lv_iload hx hb dX12_lays_18 (lv_at hl 5 rfl) ?_
  obtain ⟨j_4, hj_4, hi_4, h⟩ := ck_some h
  refine gx_iast S hK gx_ok hw tq j_4 hj_4 hi_4 dX12_lays_20 (fun H locs hw => ?_)
  obtain ⟨σ_5, e_5, h⟩ := nm_some h
  rw [← e_5] at hw
  refine lv_aload_n hx hb dX12_lays_21 rfl (lv_at hl 2 rfl) ?_
  refine lv_iload hx hb dX12_lays_22 (lv_at hl 0 rfl) ?_
  refine lv_iconst (v := 2) hx hb dX12_lays_24 (by decide) ?_
  refine lv_iadd hx hb dX12_lays_25 ?_
  refine lv_iload hx hb dX12_lays_26 (lv_at hl 6 rfl) ?_
  obtain ⟨j_6, hj_6, hi_6, h⟩ := ck_some h
  refine gx_iast S hK gx_ok hw tq j_6 hj_6 hi_6 dX12_lays_28 (fun H locs hw => ?_)
  obtain ⟨σ_7, e_7, h⟩ := nm_some h
  rw [← e_7] at hw
  refine lv_aload_n hx hb dX12_lays_29 rfl (lv_at hl 2 rfl) ?_
  refine lv_iload hx hb dX12_lays_30 (lv_at hl 0 rfl) ?_
  refine lv_iconst (v := 3) hx hb dX12_lays_32 (by decide) ?_
  refine lv_iadd hx hb dX12_lays_33 ?_
  refine lv_iconst (v := 1) hx hb dX12_lays_34 (by decide) ?_
  refine lv_iload_n hx hb dX12_lays_35 rfl (lv_at hl 4 rfl) ?_
  refine lv_ishl hx hb dX12_lays_36 ?_
  obtain ⟨j_8, hj_8, hi_8, h⟩ := ck_some h
  refine gx_iast S hK gx_ok hw tq j_8 hj_8 hi_8 dX12_lays_37 (fun H locs hw => ?_)
  obtain ⟨σ_9, e_9, h⟩ := nm_some h
  rw [← e_9] at hw
  refine lv_aload_n hx hb dX12_lays_38 rfl (lv_at hl 2 rfl) ?_
  refine lv_iload hx hb dX12_lays_39 (lv_at hl 0 rfl) ?_
  refine lv_iconst (v := 4) hx hb dX12_lays_41 (by decide) ?_
  refine lv_iadd hx hb dX12_lays_42 ?_
  refine lv_aload_n hx hb dX12_lays_43 rfl (lv_at hl 1 rfl) ?_
  refine gx_getr (j := 201) S hK hw t_199 cl_13 5 (by decide) rfl mw_1419 rfl dX12_lays_44 ?_
  refine lv_iload_n hx hb dX12_lays_47 rfl (lv_at hl 4 rfl) ?_
  obtain ⟨j_10, hj_10, hi_10, h⟩ := ck_some h
  refine gx_iald S hK hw t_201 j_10 hj_10 hi_10 dX12_lays_48 ?_
  refine lv_bipush (v := 6) hx hb dX12_lays_49 (by decide) ?_
  refine lv_icmp_ne (tgt := 58) hx hb dX12_lays_51 (by decide) (fun c_11 => ?_) (fun c_11 => ?_)
  · rw [if_neg c_11] at h
    refine lv_iconst (v := 0) hx hb dX12_lays_58 (by decide) ?_
    exact b_X12_lays_59 l S hr hlk hK N q tq σ_9 τ x3 x6 v_1 0 (v_1 + 4) h hw (lv_sub hl [1, 2, 4, 7, 0] rfl)
  · rw [if_pos c_11] at h
    refine lv_iconst (v := 1) hx hb dX12_lays_54 (by decide) ?_
    refine lv_goto (tgt := 59) hx hb dX12_lays_55 (by decide) ?_
    exact b_X12_lays_59 l S hr hlk hK N q tq σ_9 τ x3 x6 v_1 1 (v_1 + 4) h hw (lv_sub hl [1, 2, 4, 7, 0] rfl)
set_option maxHeartbeats 4000000 in
set_option maxRecDepth 100000 in
theorem c_X12_lays (l : Launch) {E : gE} (N : Nat) (q : Nat) (tq : gx_tb[q]? = some (.inr (0, 45, []))) (σ : gI) (τ : gJ) (x2 : Int32) (x3 : Int32) (x4 : Int32) (x5 : Int32) (x6 : Int32) {r : Unit} {σ1 : gI} {τ1 : gJ} (h : B_X12_lays_0 N q σ τ x2 x3 x4 x5 x6 = some (r, σ1, τ1)) : gx_Mv l yX12_lays cX12_lays 8 none 0 gx_tb E σ τ [.ref (E.2.2 + 199), .ref (E.2.2 + q), .int x2, .int x3, .int x4, .int x5, .int x6] (gq_v σ1 τ1) := by
  refine gx_bv (by decide +kernel) (Nat.le_of_ble_eq_true rfl) ?_
  intro P9 e9 s m9 below meth C9 S hr hlk hK hw ls hl
  have hl : lv_has ls 8 [(0, .ref (E.2.2 + 199)), (1, .ref (E.2.2 + q)), (2, .int x2), (3, .int x3), (4, .int x4), (5, .int x5), (6, .int x6)] := hl
  exact b_X12_lays_0 l S hr hlk hK N q tq σ τ x2 x3 x4 x5 x6 h hw hl
/-! X12_laysAlone -/
def C_X12_laysAlone_3 (N : Nat) (rec_3 : gI → gJ → Int32 → Int32 → Int32 → Int32 → Int32 → Option (Unit × gI × gJ)) (σ : gI) (τ : gJ) (x1 : Int32) (x2 : Int32) (x3 : Int32) (x4 : Int32) (x5 : Int32) : Option (Unit × gI × gJ) := if 45 ≤ x5 then (nm (up2 σ 224 42 (σ 199 45)) fun σ_2 => nm (up2 σ_2 224 43 (σ_2 199 46)) fun σ_3 => nm (up2 σ_3 224 44 1) fun σ_4 => bd (B_X12_lays_0 N 224 σ_4 τ 0 x1 x2 x3 x4) fun _ σ_5 τ_5 => some ((), σ_5, τ_5)) else (ck x5 45 fun j_6 => nm (up2 σ 224 j_6 0) fun σ_7 => nm (x5 + 1) fun v_8 => rec_3 σ_7 τ x1 x2 x3 x4 v_8)
def H_X12_laysAlone_3 (N : Nat) : Nat → gI → gJ → Int32 → Int32 → Int32 → Int32 → Int32 → Option (Unit × gI × gJ) := itn (fun rec_3 => C_X12_laysAlone_3 N rec_3) (fun _ _ _ _ _ _ _ => none)
def B_X12_laysAlone_0 (N : Nat) (σ : gI) (τ : gJ) (x1 : Int32) (x2 : Int32) (x3 : Int32) (x4 : Int32) : Option (Unit × gI × gJ) := H_X12_laysAlone_3 N N σ τ x1 x2 x3 x4 0
set_option maxHeartbeats 4000000 in
set_option maxRecDepth 100000 in
theorem k_X12_laysAlone_3 (l : Launch) (S : CallFix P9 m9 C9 cX12_laysAlone 6 s av.toArray gx_G RX12) (hr : meth.sig.returnType = none) (hlk : meth.locks = false) (hK : gx_K E s) (N : Nat) (rec_3 : gI → gJ → Int32 → Int32 → Int32 → Int32 → Int32 → Option (Unit × gI × gJ)) (hrec_3 : ∀ (σ : gI) (τ : gJ) (x1 : Int32) (x2 : Int32) (x3 : Int32) (x4 : Int32) (x5 : Int32) (r : Unit) (σ1 : gI) (τ1 : gJ) (H : Heap) (locs : List Loc) (ls : Array Slot), rec_3 σ τ x1 x2 x3 x4 x5 = some (r, σ1, τ1) → gx_W gx_tb gx_tb.length E s σ τ H locs → lv_has ls 6 [(0, .ref (E.2.2 + 199)), (1, .int x1), (2, .int x2), (3, .int x3), (4, .int x4), (5, .int x5)] → W P9 l e9 (gx_rm 1) s m9 av.toArray below meth C9 H locs 0 0 (gq_Qv below av s E σ1 τ1) (F0 m9 3 ls [])) (σ : gI) (τ : gJ) (x1 : Int32) (x2 : Int32) (x3 : Int32) (x4 : Int32) (x5 : Int32) {r : Unit} {σ1 : gI} {τ1 : gJ} (h : C_X12_laysAlone_3 N rec_3 σ τ x1 x2 x3 x4 x5 = some (r, σ1, τ1)) {H : Heap} {locs : List Loc} {ls : Array Slot} (hw : gx_W gx_tb gx_tb.length E s σ τ H locs) (hl : lv_has ls 6 [(0, .ref (E.2.2 + 199)), (1, .int x1), (2, .int x2), (3, .int x3), (4, .int x4), (5, .int x5)]) : W P9 l e9 (gx_rm 1) s m9 av.toArray below meth C9 H locs 0 0 (gq_Qv below av s E σ1 τ1) (F0 m9 3 ls []) := by
  have hx := S.1
  have hb := S.2.1
  unfold C_X12_laysAlone_3 at h
  refine lv_iload hx hb dX12_laysAlone_3 (lv_at hl 5 rfl) ?_
  refine lv_bipush (v := 45) hx hb dX12_laysAlone_5 (by decide) ?_
  refine lv_icmp_ge (tgt := 24) hx hb dX12_laysAlone_7 (by decide) (fun c_1 => ?_) (fun c_1 => ?_)
  · rw [if_pos c_1] at h
    refine lv_aload_n hx hb dX12_laysAlone_24 rfl (lv_at hl 0 rfl) ?_
    refine gx_getr (j := 224) S hK hw t_199 cl_13 44 (by decide) rfl mw_1458 rfl dX12_laysAlone_25 ?_
    refine lv_bipush (v := 42) hx hb dX12_laysAlone_28 (by decide) ?_
    refine lv_aload_n hx hb dX12_laysAlone_30 rfl (lv_at hl 0 rfl) ?_
    refine gx_get S hK hw t_199 cl_13 45 (by decide) rfl mw_1459 rfl dX12_laysAlone_31 ?_
    refine gx_iast S hK gx_ok hw t_224 42 rfl (gx_in rfl (by decide) (by decide)) dX12_laysAlone_34 (fun H locs hw => ?_)
    obtain ⟨σ_2, e_2, h⟩ := nm_some h
    rw [← e_2] at hw
    refine lv_aload_n hx hb dX12_laysAlone_35 rfl (lv_at hl 0 rfl) ?_
    refine gx_getr (j := 224) S hK hw t_199 cl_13 44 (by decide) rfl mw_1458 rfl dX12_laysAlone_36 ?_
    refine lv_bipush (v := 43) hx hb dX12_laysAlone_39 (by decide) ?_
    refine lv_aload_n hx hb dX12_laysAlone_41 rfl (lv_at hl 0 rfl) ?_
    refine gx_get S hK hw t_199 cl_13 46 (by decide) rfl mw_1460 rfl dX12_laysAlone_42 ?_
    refine gx_iast S hK gx_ok hw t_224 43 rfl (gx_in rfl (by decide) (by decide)) dX12_laysAlone_45 (fun H locs hw => ?_)
    obtain ⟨σ_3, e_3, h⟩ := nm_some h
    rw [← e_3] at hw
    refine lv_aload_n hx hb dX12_laysAlone_46 rfl (lv_at hl 0 rfl) ?_
    refine gx_getr (j := 224) S hK hw t_199 cl_13 44 (by decide) rfl mw_1458 rfl dX12_laysAlone_47 ?_
    refine lv_bipush (v := 44) hx hb dX12_laysAlone_50 (by decide) ?_
    refine lv_iconst (v := 1) hx hb dX12_laysAlone_52 (by decide) ?_
    refine gx_iast S hK gx_ok hw t_224 44 rfl (gx_in rfl (by decide) (by decide)) dX12_laysAlone_53 (fun H locs hw => ?_)
    obtain ⟨σ_4, e_4, h⟩ := nm_some h
    rw [← e_4] at hw
    refine lv_aload_n hx hb dX12_laysAlone_54 rfl (lv_at hl 0 rfl) ?_
    refine lv_aload_n hx hb dX12_laysAlone_55 rfl (lv_at hl 0 rfl) ?_
    refine gx_getr (j := 224) S hK hw t_199 cl_13 44 (by decide) rfl mw_1458 rfl dX12_laysAlone_56 ?_
    refine lv_iconst (v := 0) hx hb dX12_laysAlone_59 (by decide) ?_
    refine lv_iload_n hx hb dX12_laysAlone_60 rfl (lv_at hl 1 rfl) ?_
    refine lv_iload_n hx hb dX12_laysAlone_61 rfl (lv_at hl 2 rfl) ?_
    refine lv_iload_n hx hb dX12_laysAlone_62 rfl (lv_at hl 3 rfl) ?_
    refine lv_iload hx hb dX12_laysAlone_63 (lv_at hl 4 rfl) ?_
    obtain ⟨u_5, σ_5, τ_5, q_5, h⟩ := bd_some h
    refine gx_cVv (As := [.ref (E.2.2 + 224), .int 0, .int x1, .int x2, .int x3, .int x4]) (rest := []) S hK gx_ok hw (c_X12_lays l (E := E) N 224 t_224 σ_4 τ 0 x1 x2 x3 x4 q_5) cw_X12_335 t_199 cl_13 ⟨Nat.le_of_ble_eq_true rfl, Nat.le_of_ble_eq_true rfl⟩ rfl hl.1 rfl (Nat.le_of_ble_eq_true rfl) ⟨Nat.le_of_ble_eq_true rfl, Nat.le_of_ble_eq_true rfl⟩ dX12_laysAlone_65 (fun σ9 τ9 H locs hp hw => ?_)
    obtain ⟨rfl, rfl⟩ := hp
    obtain ⟨-, rfl, rfl⟩ := sm_inj h
    exact gx_rv (post := gq_v σ_5 τ_5) S hr hlk hw dX12_laysAlone_68 ⟨rfl, rfl⟩
  · rw [if_neg c_1] at h
    refine lv_aload_n hx hb dX12_laysAlone_10 rfl (lv_at hl 0 rfl) ?_
    refine gx_getr (j := 224) S hK hw t_199 cl_13 44 (by decide) rfl mw_1458 rfl dX12_laysAlone_11 ?_
    refine lv_iload hx hb dX12_laysAlone_14 (lv_at hl 5 rfl) ?_
    refine lv_iconst (v := 0) hx hb dX12_laysAlone_16 (by decide) ?_
    obtain ⟨j_6, hj_6, hi_6, h⟩ := ck_some h
    refine gx_iast S hK gx_ok hw t_224 j_6 hj_6 hi_6 dX12_laysAlone_17 (fun H locs hw => ?_)
    obtain ⟨σ_7, e_7, h⟩ := nm_some h
    rw [← e_7] at hw
    refine lv_iinc (v := x5 + 1) (lv' := [(5, .int (x5 + 1)), (0, .ref (E.2.2 + 199)), (1, .int x1), (2, .int x2), (3, .int x3), (4, .int x4)]) hx hb dX12_laysAlone_18 hl (k := 5) rfl rfl (by decide) rfl (fun ls hl => ?_)
    obtain ⟨v_8, e_8, h⟩ := nm_some h
    have hl : lv_has ls 6 [(5, .int v_8), (0, .ref (E.2.2 + 199)), (1, .int x1), (2, .int x2), (3, .int x3), (4, .int x4)] := by rw [e_8]; exact hl
    refine lv_goto (tgt := 3) hx hb dX12_laysAlone_21 (by decide) ?_
    exact hrec_3 σ_7 τ x1 x2 x3 x4 v_8 _ _ _ _ _ _ h hw (lv_sub hl [1, 2, 3, 4, 5, 0] rfl)
set_option maxHeartbeats 4000000 in
set_option maxRecDepth 100000 in
theorem h_X12_laysAlone_3 (l : Launch) (S : CallFix P9 m9 C9 cX12_laysAlone 6 s av.toArray gx_G RX12) (hr : meth.sig.returnType = none) (hlk : meth.locks = false) (hK : gx_K E s) (N : Nat) : ∀ (n : Nat) (σ : gI) (τ : gJ) (x1 : Int32) (x2 : Int32) (x3 : Int32) (x4 : Int32) (x5 : Int32) (r : Unit) (σ1 : gI) (τ1 : gJ), H_X12_laysAlone_3 N n σ τ x1 x2 x3 x4 x5 = some (r, σ1, τ1) → ∀ (H : Heap) (locs : List Loc) (ls : Array Slot), gx_W gx_tb gx_tb.length E s σ τ H locs → lv_has ls 6 [(0, .ref (E.2.2 + 199)), (1, .int x1), (2, .int x2), (3, .int x3), (4, .int x4), (5, .int x5)] → W P9 l e9 (gx_rm 1) s m9 av.toArray below meth C9 H locs 0 0 (gq_Qv below av s E σ1 τ1) (F0 m9 3 ls []) := by
  intro n
  induction n with
  | zero => intro σ τ x1 x2 x3 x4 x5 r σ1 τ1 h; cases h
  | succ n ih =>
    intro σ τ x1 x2 x3 x4 x5 r σ1 τ1 h H locs ls hw hl
    exact k_X12_laysAlone_3 l S hr hlk hK N (H_X12_laysAlone_3 N n) (fun σ τ x1 x2 x3 x4 x5 r σ1 τ1 H locs ls h hw hl => ih σ τ x1 x2 x3 x4 x5 r σ1 τ1 h H locs ls hw hl) σ τ x1 x2 x3 x4 x5 h hw hl
set_option maxHeartbeats 4000000 in
set_option maxRecDepth 100000 in
theorem b_X12_laysAlone_0 (l : Launch) (S : CallFix P9 m9 C9 cX12_laysAlone 6 s av.toArray gx_G RX12) (hr : meth.sig.returnType = none) (hlk : meth.locks = false) (hK : gx_K E s) (N : Nat) (σ : gI) (τ : gJ) (x1 : Int32) (x2 : Int32) (x3 : Int32) (x4 : Int32) {r : Unit} {σ1 : gI} {τ1 : gJ} (h : B_X12_laysAlone_0 N σ τ x1 x2 x3 x4 = some (r, σ1, τ1)) {H : Heap} {locs : List Loc} {ls : Array Slot} (hw : gx_W gx_tb gx_tb.length E s σ τ H locs) (hl : lv_has ls 6 [(0, .ref (E.2.2 + 199)), (1, .int x1), (2, .int x2), (3, .int x3), (4, .int x4)]) : W P9 l e9 (gx_rm 1) s m9 av.toArray below meth C9 H locs 0 0 (gq_Qv below av s E σ1 τ1) (F0 m9 0 ls []) := by
  have hx := S.1
  have hb := S.2.1
  unfold B_X12_laysAlone_0 at h
  refine lv_iconst (v := 0) hx hb dX12_laysAlone_0 (by decide) ?_
  refine lv_istore (lv' := [(5, .int 0), (0, .ref (E.2.2 + 199)), (1, .int x1), (2, .int x2), (3, .int x3), (4, .int x4)]) hx hb dX12_laysAlone_1 hl (by decide) rfl (fun ls hl => ?_)
  exact h_X12_laysAlone_3 l S hr hlk hK N N σ τ x1 x2 x3 x4 0 _ _ _ h _ _ _ hw (lv_sub hl [1, 2, 3, 4, 5, 0] rfl)
set_option maxHeartbeats 4000000 in
set_option maxRecDepth 100000 in
theorem c_X12_laysAlone (l : Launch) {E : gE} (N : Nat) (σ : gI) (τ : gJ) (x1 : Int32) (x2 : Int32) (x3 : Int32) (x4 : Int32) {r : Unit} {σ1 : gI} {τ1 : gJ} (h : B_X12_laysAlone_0 N σ τ x1 x2 x3 x4 = some (r, σ1, τ1)) : gx_Mv l yX12_laysAlone cX12_laysAlone 6 none 1 gx_tb E σ τ [.ref (E.2.2 + 199), .int x1, .int x2, .int x3, .int x4] (gq_v σ1 τ1) := by
  refine gx_bv (by decide +kernel) (Nat.le_of_ble_eq_true rfl) ?_
  intro P9 e9 s m9 below meth C9 S hr hlk hK hw ls hl
  have hl : lv_has ls 6 [(0, .ref (E.2.2 + 199)), (1, .int x1), (2, .int x2), (3, .int x3), (4, .int x4)] := hl
  exact b_X12_laysAlone_0 l S hr hlk hK N σ τ x1 x2 x3 x4 h hw hl
/-! X12_ends -/
def B_X12_ends_0 (N : Nat) (q : Nat) (σ : gI) (τ : gJ) (x2 : Int32) (x3 : Int32) : Option (Unit × gI × gJ) := ck ((7 * x2) + 4) 45 fun j_1 => nm (up2 σ q j_1 x3) fun σ_2 => ck ((7 * x2) + 6) 45 fun j_3 => nm (up2 σ_2 q j_3 (σ_2 q 43)) fun σ_4 => some ((), σ_4, τ)
set_option maxHeartbeats 4000000 in
set_option maxRecDepth 100000 in
theorem b_X12_ends_0 (l : Launch) (S : CallFix P9 m9 C9 cX12_ends 4 s av.toArray gx_G RX12) (hr : meth.sig.returnType = none) (hlk : meth.locks = false) (hK : gx_K E s) (N : Nat) (q : Nat) (tq : gx_tb[q]? = some (.inr (0, 45, []))) (σ : gI) (τ : gJ) (x2 : Int32) (x3 : Int32) {r : Unit} {σ1 : gI} {τ1 : gJ} (h : B_X12_ends_0 N q σ τ x2 x3 = some (r, σ1, τ1)) {H : Heap} {locs : List Loc} {ls : Array Slot} (hw : gx_W gx_tb gx_tb.length E s σ τ H locs) (hl : lv_has ls 4 [(0, .ref (E.2.2 + 199)), (1, .ref (E.2.2 + q)), (2, .int x2), (3, .int x3)]) : W P9 l e9 (gx_rm 0) s m9 av.toArray below meth C9 H locs 0 0 (gq_Qv below av s E σ1 τ1) (F0 m9 0 ls []) := by
  have hx := S.1
  have hb := S.2.1
  unfold B_X12_ends_0 at h
  refine lv_aload_n hx hb dX12_ends_0 rfl (lv_at hl 1 rfl) ?_
  refine lv_bipush (v := 7) hx hb dX12_ends_1 (by decide) ?_
  refine lv_iload_n hx hb dX12_ends_3 rfl (lv_at hl 2 rfl) ?_
  refine lv_imul hx hb dX12_ends_4 ?_
  refine lv_iconst (v := 4) hx hb dX12_ends_5 (by decide) ?_
  refine lv_iadd hx hb dX12_ends_6 ?_
  refine lv_iload_n hx hb dX12_ends_7 rfl (lv_at hl 3 rfl) ?_
  obtain ⟨j_1, hj_1, hi_1, h⟩ := ck_some h
  refine gx_iast S hK gx_ok hw tq j_1 hj_1 hi_1 dX12_ends_8 (fun H locs hw => ?_)
  obtain ⟨σ_2, e_2, h⟩ := nm_some h
  rw [← e_2] at hw
  refine lv_aload_n hx hb dX12_ends_9 rfl (lv_at hl 1 rfl) ?_
  refine lv_bipush (v := 7) hx hb dX12_ends_10 (by decide) ?_
  refine lv_iload_n hx hb dX12_ends_12 rfl (lv_at hl 2 rfl) ?_
  refine lv_imul hx hb dX12_ends_13 ?_
  refine lv_bipush (v := 6) hx hb dX12_ends_14 (by decide) ?_
  refine lv_iadd hx hb dX12_ends_16 ?_
  refine lv_aload_n hx hb dX12_ends_17 rfl (lv_at hl 1 rfl) ?_
  refine lv_bipush (v := 43) hx hb dX12_ends_18 (by decide) ?_
  refine gx_iald S hK hw tq 43 rfl (gx_in rfl (by decide) (by decide)) dX12_ends_20 ?_
  obtain ⟨j_3, hj_3, hi_3, h⟩ := ck_some h
  refine gx_iast S hK gx_ok hw tq j_3 hj_3 hi_3 dX12_ends_21 (fun H locs hw => ?_)
  obtain ⟨σ_4, e_4, h⟩ := nm_some h
  rw [← e_4] at hw
  obtain ⟨-, rfl, rfl⟩ := sm_inj h
  exact gx_rv (post := gq_v σ_4 τ) S hr hlk hw dX12_ends_22 ⟨rfl, rfl⟩
set_option maxHeartbeats 4000000 in
set_option maxRecDepth 100000 in
theorem c_X12_ends (l : Launch) {E : gE} (N : Nat) (q : Nat) (tq : gx_tb[q]? = some (.inr (0, 45, []))) (σ : gI) (τ : gJ) (x2 : Int32) (x3 : Int32) {r : Unit} {σ1 : gI} {τ1 : gJ} (h : B_X12_ends_0 N q σ τ x2 x3 = some (r, σ1, τ1)) : gx_Mv l yX12_ends cX12_ends 4 none 0 gx_tb E σ τ [.ref (E.2.2 + 199), .ref (E.2.2 + q), .int x2, .int x3] (gq_v σ1 τ1) := by
  refine gx_bv (by decide +kernel) (Nat.le_of_ble_eq_true rfl) ?_
  intro P9 e9 s m9 below meth C9 S hr hlk hK hw ls hl
  have hl : lv_has ls 4 [(0, .ref (E.2.2 + 199)), (1, .ref (E.2.2 + q)), (2, .int x2), (3, .int x3)] := hl
  exact b_X12_ends_0 l S hr hlk hK N q tq σ τ x2 x3 h hw hl
/-! X12_worked -/
def B_X12_worked_0 (N : Nat) (σ : gI) (τ : gJ) (x0 : Int32) (x1 : Int32) (x2 : Int32) : Option (Int32 × gI × gJ) := if x0 = 0 then (if x2 ≤ x1 then (bd (B_X12_flag_0 N σ τ 0) fun r_3 σ_3 τ_3 => some (r_3, σ_3, τ_3)) else (bd (B_X12_flag_0 N σ τ 1) fun r_4 σ_4 τ_4 => some (r_4, σ_4, τ_4))) else if x0 = 1 then (if x1 ≤ x2 then (bd (B_X12_flag_0 N σ τ 0) fun r_7 σ_7 τ_7 => some (r_7, σ_7, τ_7)) else (bd (B_X12_flag_0 N σ τ 1) fun r_8 σ_8 τ_8 => some (r_8, σ_8, τ_8))) else if x0 = 2 then (if x1 = x2 then (bd (B_X12_flag_0 N σ τ 1) fun r_12 σ_12 τ_12 => some (r_12, σ_12, τ_12)) else (bd (B_X12_flag_0 N σ τ 0) fun r_11 σ_11 τ_11 => some (r_11, σ_11, τ_11))) else if x0 = 3 then (some (x1 + x2, σ, τ)) else if x0 = 4 then (some (x1 - x2, σ, τ)) else if x0 = 5 then (some (x1 * x2, σ, τ)) else (if x2 = 0 then (some (0, σ, τ)) else (dz x2 <| some (x1 / x2, σ, τ)))
set_option maxHeartbeats 4000000 in
set_option maxRecDepth 100000 in
theorem b_X12_worked_0 (l : Launch) (S : CallFix P9 m9 C9 cX12_worked 3 s av.toArray gx_G RX12) (hr : meth.sig.returnType = (some .int)) (hlk : meth.locks = false) (hK : gx_K E s) (N : Nat) (σ : gI) (τ : gJ) (x0 : Int32) (x1 : Int32) (x2 : Int32) {r : Int32} {σ1 : gI} {τ1 : gJ} (h : B_X12_worked_0 N σ τ x0 x1 x2 = some (r, σ1, τ1)) {H : Heap} {locs : List Loc} {ls : Array Slot} (hw : gx_W gx_tb gx_tb.length E s σ τ H locs) (hl : lv_has ls 3 [(0, .int x0), (1, .int x1), (2, .int x2)]) : W P9 l e9 (gx_rm 1) s m9 av.toArray below meth C9 H locs 0 0 (gq_Qi below av s E r σ1 τ1) (F0 m9 0 ls []) := by
  have hx := S.1
  have hb := S.2.1
  unfold B_X12_worked_0 at h
  refine lv_iload_n hx hb dX12_worked_0 rfl (lv_at hl 0 rfl) ?_
  by_cases c_1 : x0 = 0
  · rw [if_pos c_1] at h
    refine gx_top (v := 0) c_1 ?_
    refine lv_tableIn (tgt := 40) hx hb dX12_worked_1 (by decide) (by decide) rfl (by decide) ?_
    refine lv_iload_n hx hb dX12_worked_40 rfl (lv_at hl 1 rfl) ?_
    refine lv_iload_n hx hb dX12_worked_41 rfl (lv_at hl 2 rfl) ?_
    refine lv_icmp_ge (tgt := 49) hx hb dX12_worked_42 (by decide) (fun c_2 => ?_) (fun c_2 => ?_)
    · rw [if_pos c_2] at h
      refine lv_iconst (v := 0) hx hb dX12_worked_49 (by decide) ?_
      obtain ⟨r_3, σ_3, τ_3, q_3, h⟩ := bd_some h
      refine gx_cSi (As := [.int 0]) (rest := []) S hK gx_ok hw (c_X12_flag l (E := E) N σ τ 0 q_3) cw_X12_155 ⟨Nat.le_of_ble_eq_true rfl, Nat.le_of_ble_eq_true rfl⟩ rfl hl.1 rfl (Nat.le_of_ble_eq_true rfl) ⟨Nat.le_of_ble_eq_true rfl, Nat.le_of_ble_eq_true rfl⟩ dX12_worked_50 (fun r9 σ9 τ9 H locs hp hw => ?_)
      obtain ⟨rfl, rfl, rfl⟩ := hp
      obtain ⟨rfl, rfl, rfl⟩ := sm_inj h
      exact gx_ri (post := gq_p r_3 σ_3 τ_3) (v := r_3) S hr hlk hw rfl dX12_worked_53 ⟨rfl, rfl, rfl⟩
    · rw [if_neg c_2] at h
      refine lv_iconst (v := 1) hx hb dX12_worked_45 (by decide) ?_
      refine lv_goto (tgt := 50) hx hb dX12_worked_46 (by decide) ?_
      obtain ⟨r_4, σ_4, τ_4, q_4, h⟩ := bd_some h
      refine gx_cSi (As := [.int 1]) (rest := []) S hK gx_ok hw (c_X12_flag l (E := E) N σ τ 1 q_4) cw_X12_155 ⟨Nat.le_of_ble_eq_true rfl, Nat.le_of_ble_eq_true rfl⟩ rfl hl.1 rfl (Nat.le_of_ble_eq_true rfl) ⟨Nat.le_of_ble_eq_true rfl, Nat.le_of_ble_eq_true rfl⟩ dX12_worked_50 (fun r9 σ9 τ9 H locs hp hw => ?_)
      obtain ⟨rfl, rfl, rfl⟩ := hp
      obtain ⟨rfl, rfl, rfl⟩ := sm_inj h
      exact gx_ri (post := gq_p r_4 σ_4 τ_4) (v := r_4) S hr hlk hw rfl dX12_worked_53 ⟨rfl, rfl, rfl⟩
  rw [if_neg c_1] at h
  by_cases c_5 : x0 = 1
  · rw [if_pos c_5] at h
    refine gx_top (v := 1) c_5 ?_
    refine lv_tableIn (tgt := 54) hx hb dX12_worked_1 (by decide) (by decide) rfl (by decide) ?_
    refine lv_iload_n hx hb dX12_worked_54 rfl (lv_at hl 1 rfl) ?_
    refine lv_iload_n hx hb dX12_worked_55 rfl (lv_at hl 2 rfl) ?_
    refine lv_icmp_le (tgt := 63) hx hb dX12_worked_56 (by decide) (fun c_6 => ?_) (fun c_6 => ?_)
    · rw [if_pos c_6] at h
      refine lv_iconst (v := 0) hx hb dX12_worked_63 (by decide) ?_
      obtain ⟨r_7, σ_7, τ_7, q_7, h⟩ := bd_some h
      refine gx_cSi (As := [.int 0]) (rest := []) S hK gx_ok hw (c_X12_flag l (E := E) N σ τ 0 q_7) cw_X12_155 ⟨Nat.le_of_ble_eq_true rfl, Nat.le_of_ble_eq_true rfl⟩ rfl hl.1 rfl (Nat.le_of_ble_eq_true rfl) ⟨Nat.le_of_ble_eq_true rfl, Nat.le_of_ble_eq_true rfl⟩ dX12_worked_64 (fun r9 σ9 τ9 H locs hp hw => ?_)
      obtain ⟨rfl, rfl, rfl⟩ := hp
      obtain ⟨rfl, rfl, rfl⟩ := sm_inj h
      exact gx_ri (post := gq_p r_7 σ_7 τ_7) (v := r_7) S hr hlk hw rfl dX12_worked_67 ⟨rfl, rfl, rfl⟩
    · rw [if_neg c_6] at h
      refine lv_iconst (v := 1) hx hb dX12_worked_59 (by decide) ?_
      refine lv_goto (tgt := 64) hx hb dX12_worked_60 (by decide) ?_
      obtain ⟨r_8, σ_8, τ_8, q_8, h⟩ := bd_some h
      refine gx_cSi (As := [.int 1]) (rest := []) S hK gx_ok hw (c_X12_flag l (E := E) N σ τ 1 q_8) cw_X12_155 ⟨Nat.le_of_ble_eq_true rfl, Nat.le_of_ble_eq_true rfl⟩ rfl hl.1 rfl (Nat.le_of_ble_eq_true rfl) ⟨Nat.le_of_ble_eq_true rfl, Nat.le_of_ble_eq_true rfl⟩ dX12_worked_64 (fun r9 σ9 τ9 H locs hp hw => ?_)
      obtain ⟨rfl, rfl, rfl⟩ := hp
      obtain ⟨rfl, rfl, rfl⟩ := sm_inj h
      exact gx_ri (post := gq_p r_8 σ_8 τ_8) (v := r_8) S hr hlk hw rfl dX12_worked_67 ⟨rfl, rfl, rfl⟩
  rw [if_neg c_5] at h
  by_cases c_9 : x0 = 2
  · rw [if_pos c_9] at h
    refine gx_top (v := 2) c_9 ?_
    refine lv_tableIn (tgt := 68) hx hb dX12_worked_1 (by decide) (by decide) rfl (by decide) ?_
    refine lv_iload_n hx hb dX12_worked_68 rfl (lv_at hl 1 rfl) ?_
    refine lv_iload_n hx hb dX12_worked_69 rfl (lv_at hl 2 rfl) ?_
    refine lv_icmp_ne (tgt := 77) hx hb dX12_worked_70 (by decide) (fun c_10 => ?_) (fun c_10 => ?_)
    · rw [if_neg c_10] at h
      refine lv_iconst (v := 0) hx hb dX12_worked_77 (by decide) ?_
      obtain ⟨r_11, σ_11, τ_11, q_11, h⟩ := bd_some h
      refine gx_cSi (As := [.int 0]) (rest := []) S hK gx_ok hw (c_X12_flag l (E := E) N σ τ 0 q_11) cw_X12_155 ⟨Nat.le_of_ble_eq_true rfl, Nat.le_of_ble_eq_true rfl⟩ rfl hl.1 rfl (Nat.le_of_ble_eq_true rfl) ⟨Nat.le_of_ble_eq_true rfl, Nat.le_of_ble_eq_true rfl⟩ dX12_worked_78 (fun r9 σ9 τ9 H locs hp hw => ?_)
      obtain ⟨rfl, rfl, rfl⟩ := hp
      obtain ⟨rfl, rfl, rfl⟩ := sm_inj h
      exact gx_ri (post := gq_p r_11 σ_11 τ_11) (v := r_11) S hr hlk hw rfl dX12_worked_81 ⟨rfl, rfl, rfl⟩
    · rw [if_pos c_10] at h
      refine lv_iconst (v := 1) hx hb dX12_worked_73 (by decide) ?_
      refine lv_goto (tgt := 78) hx hb dX12_worked_74 (by decide) ?_
      obtain ⟨r_12, σ_12, τ_12, q_12, h⟩ := bd_some h
      refine gx_cSi (As := [.int 1]) (rest := []) S hK gx_ok hw (c_X12_flag l (E := E) N σ τ 1 q_12) cw_X12_155 ⟨Nat.le_of_ble_eq_true rfl, Nat.le_of_ble_eq_true rfl⟩ rfl hl.1 rfl (Nat.le_of_ble_eq_true rfl) ⟨Nat.le_of_ble_eq_true rfl, Nat.le_of_ble_eq_true rfl⟩ dX12_worked_78 (fun r9 σ9 τ9 H locs hp hw => ?_)
      obtain ⟨rfl, rfl, rfl⟩ := hp
      obtain ⟨rfl, rfl, rfl⟩ := sm_inj h
      exact gx_ri (post := gq_p r_12 σ_12 τ_12) (v := r_12) S hr hlk hw rfl dX12_worked_81 ⟨rfl, rfl, rfl⟩
  rw [if_neg c_9] at h
  by_cases c_13 : x0 = 3
  · rw [if_pos c_13] at h
    refine gx_top (v := 3) c_13 ?_
    refine lv_tableIn (tgt := 82) hx hb dX12_worked_1 (by decide) (by decide) rfl (by decide) ?_
    refine lv_iload_n hx hb dX12_worked_82 rfl (lv_at hl 1 rfl) ?_
    refine lv_iload_n hx hb dX12_worked_83 rfl (lv_at hl 2 rfl) ?_
    refine lv_iadd hx hb dX12_worked_84 ?_
    obtain ⟨rfl, rfl, rfl⟩ := sm_inj h
    exact gx_ri (post := gq_p (x1 + x2) σ τ) (v := x1 + x2) S hr hlk hw rfl dX12_worked_85 ⟨rfl, rfl, rfl⟩
  rw [if_neg c_13] at h
  by_cases c_14 : x0 = 4
  · rw [if_pos c_14] at h
    refine gx_top (v := 4) c_14 ?_
    refine lv_tableIn (tgt := 86) hx hb dX12_worked_1 (by decide) (by decide) rfl (by decide) ?_
    refine lv_iload_n hx hb dX12_worked_86 rfl (lv_at hl 1 rfl) ?_
    refine lv_iload_n hx hb dX12_worked_87 rfl (lv_at hl 2 rfl) ?_
    refine lv_isub hx hb dX12_worked_88 ?_
    obtain ⟨rfl, rfl, rfl⟩ := sm_inj h
    exact gx_ri (post := gq_p (x1 - x2) σ τ) (v := x1 - x2) S hr hlk hw rfl dX12_worked_89 ⟨rfl, rfl, rfl⟩
  rw [if_neg c_14] at h
  by_cases c_15 : x0 = 5
  · rw [if_pos c_15] at h
    refine gx_top (v := 5) c_15 ?_
    refine lv_tableIn (tgt := 90) hx hb dX12_worked_1 (by decide) (by decide) rfl (by decide) ?_
    refine lv_iload_n hx hb dX12_worked_90 rfl (lv_at hl 1 rfl) ?_
    refine lv_iload_n hx hb dX12_worked_91 rfl (lv_at hl 2 rfl) ?_
    refine lv_imul hx hb dX12_worked_92 ?_
    obtain ⟨rfl, rfl, rfl⟩ := sm_inj h
    exact gx_ri (post := gq_p (x1 * x2) σ τ) (v := x1 * x2) S hr hlk hw rfl dX12_worked_93 ⟨rfl, rfl, rfl⟩
  rw [if_neg c_15] at h
  refine lv_tableOut (tgt := 94) hx hb dX12_worked_1 (by have t_1 := lv_neT (a := 0) c_1 rfl; have t_5 := lv_neT (a := 1) c_5 rfl; have t_9 := lv_neT (a := 2) c_9 rfl; have t_13 := lv_neT (a := 3) c_13 rfl; have t_14 := lv_neT (a := 4) c_14 rfl; have t_15 := lv_neT (a := 5) c_15 rfl; omega) (by decide) ?_
  refine lv_iload_n hx hb dX12_worked_94 rfl (lv_at hl 2 rfl) ?_
  refine lv_if_ne (tgt := 102) hx hb dX12_worked_95 (by decide) (fun c_16 => ?_) (fun c_16 => ?_)
  · rw [if_neg c_16] at h
    refine lv_iload_n hx hb dX12_worked_102 rfl (lv_at hl 1 rfl) ?_
    refine lv_iload_n hx hb dX12_worked_103 rfl (lv_at hl 2 rfl) ?_
    obtain ⟨hz_17, h⟩ := dz_some h
    refine lv_idiv hx hb dX12_worked_104 hz_17 ?_
    obtain ⟨rfl, rfl, rfl⟩ := sm_inj h
    exact gx_ri (post := gq_p (x1 / x2) σ τ) (v := x1 / x2) S hr hlk hw rfl dX12_worked_105 ⟨rfl, rfl, rfl⟩
  · rw [if_pos c_16] at h
    refine lv_iconst (v := 0) hx hb dX12_worked_98 (by decide) ?_
    refine lv_goto (tgt := 105) hx hb dX12_worked_99 (by decide) ?_
    obtain ⟨rfl, rfl, rfl⟩ := sm_inj h
    exact gx_ri (post := gq_p 0 σ τ) (v := 0) S hr hlk hw rfl dX12_worked_105 ⟨rfl, rfl, rfl⟩
set_option maxHeartbeats 4000000 in
set_option maxRecDepth 100000 in
theorem c_X12_worked (l : Launch) {E : gE} (N : Nat) (σ : gI) (τ : gJ) (x0 : Int32) (x1 : Int32) (x2 : Int32) {r : Int32} {σ1 : gI} {τ1 : gJ} (h : B_X12_worked_0 N σ τ x0 x1 x2 = some (r, σ1, τ1)) : gx_Mi l yX12_worked cX12_worked 3 (some .int) 1 gx_tb E σ τ [.int x0, .int x1, .int x2] (gq_p r σ1 τ1) := by
  refine gx_bi (by decide +kernel) (Nat.le_of_ble_eq_true rfl) ?_
  intro P9 e9 s m9 below meth C9 S hr hlk hK hw ls hl
  have hl : lv_has ls 3 [(0, .int x0), (1, .int x1), (2, .int x2)] := hl
  exact b_X12_worked_0 l S hr hlk hK N σ τ x0 x1 x2 h hw hl
/-! X12_ruled -/
def C_X12_ruled_28 (N : Nat) (q : Nat) (rec_28 : gI → gJ → Int32 → Int32 → Int32 → Option (Int32 × gI × gJ)) (σ : gI) (τ : gJ) (x2 : Int32) (x3 : Int32) (x4 : Int32) : Option (Int32 × gI × gJ) := if σ 199 28 ≤ x4 then (some (σ 218 0, σ, τ)) else (ck x4 80 fun j_2 => nm (σ 216 j_2) fun v_3 => if v_3 = 3000 then (ck (x3 - 1) 80 fun j_22 => nm (up2 σ 218 j_22 (-(σ 218 j_22))) fun σ_23 => nm (x4 + 1) fun v_24 => rec_28 σ_23 τ x2 x3 v_24) else (if v_3 < 2000 then (if v_3 < 1000 then (ck x3 80 fun j_7 => nm (up2 σ 218 j_7 v_3) fun σ_8 => nm (x3 + 1) fun v_9 => nm (x4 + 1) fun v_10 => rec_28 σ_8 τ x2 v_9 v_10) else (bd (B_X12_askedOf_0 N q σ τ x2 (v_3 - 1000)) fun r_11 σ_11 τ_11 => ck x3 80 fun j_12 => nm (up2 σ_11 218 j_12 r_11) fun σ_13 => nm (x3 + 1) fun v_14 => nm (x4 + 1) fun v_15 => rec_28 σ_13 τ_11 x2 v_14 v_15)) else (nm (x3 + (-1)) fun v_16 => ck (v_16 - 1) 80 fun j_17 => ck v_16 80 fun j_18 => bd (B_X12_worked_0 N σ τ (v_3 - 2000) (σ 218 j_17) (σ 218 j_18)) fun r_19 σ_19 τ_19 => nm (up2 σ_19 218 j_17 r_19) fun σ_20 => nm (x4 + 1) fun v_21 => rec_28 σ_20 τ_19 x2 v_16 v_21)))
def H_X12_ruled_28 (N : Nat) (q : Nat) : Nat → gI → gJ → Int32 → Int32 → Int32 → Option (Int32 × gI × gJ) := itn (fun rec_28 => C_X12_ruled_28 N q rec_28) (fun _ _ _ _ _ => none)
def B_X12_ruled_0 (N : Nat) (q : Nat) (σ : gI) (τ : gJ) (x2 : Int32) : Option (Int32 × gI × gJ) := if σ 199 28 = 0 then (ck ((7 * x2) + 0) 45 fun j_2 => some (((σ q 42) >>> ((σ q j_2) &&& 31)) &&& 1, σ, τ)) else (H_X12_ruled_28 N q N σ τ x2 0 0)
set_option maxHeartbeats 4000000 in
set_option maxRecDepth 100000 in
theorem k_X12_ruled_28 (l : Launch) (S : CallFix P9 m9 C9 cX12_ruled 6 s av.toArray gx_G RX12) (hr : meth.sig.returnType = (some .int)) (hlk : meth.locks = false) (hK : gx_K E s) (N : Nat) (q : Nat) (tq : gx_tb[q]? = some (.inr (0, 45, []))) (rec_28 : gI → gJ → Int32 → Int32 → Int32 → Option (Int32 × gI × gJ)) (hrec_28 : ∀ (σ : gI) (τ : gJ) (x2 : Int32) (x3 : Int32) (x4 : Int32) (r : Int32) (σ1 : gI) (τ1 : gJ) (H : Heap) (locs : List Loc) (ls : Array Slot), rec_28 σ τ x2 x3 x4 = some (r, σ1, τ1) → gx_W gx_tb gx_tb.length E s σ τ H locs → lv_has ls 6 [(0, .ref (E.2.2 + 199)), (1, .ref (E.2.2 + q)), (2, .int x2), (3, .int x3), (4, .int x4)] → W P9 l e9 (gx_rm 3) s m9 av.toArray below meth C9 H locs 0 0 (gq_Qi below av s E r σ1 τ1) (F0 m9 28 ls [])) (σ : gI) (τ : gJ) (x2 : Int32) (x3 : Int32) (x4 : Int32) {r : Int32} {σ1 : gI} {τ1 : gJ} (h : C_X12_ruled_28 N q rec_28 σ τ x2 x3 x4 = some (r, σ1, τ1)) {H : Heap} {locs : List Loc} {ls : Array Slot} (hw : gx_W gx_tb gx_tb.length E s σ τ H locs) (hl : lv_has ls 6 [(0, .ref (E.2.2 + 199)), (1, .ref (E.2.2 + q)), (2, .int x2), (3, .int x3), (4, .int x4)]) : W P9 l e9 (gx_rm 3) s m9 av.toArray below meth C9 H locs 0 0 (gq_Qi below av s E r σ1 τ1) (F0 m9 28 ls []) := by
  have hx := S.1
  have hb := S.2.1
  unfold C_X12_ruled_28 at h
  refine lv_iload hx hb dX12_ruled_28 (lv_at hl 4 rfl) ?_
  refine lv_aload_n hx hb dX12_ruled_30 rfl (lv_at hl 0 rfl) ?_
  refine gx_get S hK hw t_199 cl_13 28 (by decide) rfl mw_1442 rfl dX12_ruled_31 ?_
  refine lv_icmp_ge (tgt := 159) hx hb dX12_ruled_34 (by decide) (fun c_1 => ?_) (fun c_1 => ?_)
  · rw [if_pos c_1] at h
    refine lv_aload_n hx hb dX12_ruled_159 rfl (lv_at hl 0 rfl) ?_
    refine gx_getr (j := 218) S hK hw t_199 cl_13 30 (by decide) rfl mw_1444 rfl dX12_ruled_160 ?_
    refine lv_iconst (v := 0) hx hb dX12_ruled_163 (by decide) ?_
    refine gx_iald S hK hw t_218 0 rfl (gx_in rfl (by decide) (by decide)) dX12_ruled_164 ?_
    obtain ⟨rfl, rfl, rfl⟩ := sm_inj h
    exact gx_ri (post := gq_p (σ 218 0) σ τ) (v := σ 218 0) S hr hlk hw rfl dX12_ruled_165 ⟨rfl, rfl, rfl⟩
  · rw [if_neg c_1] at h
    refine lv_aload_n hx hb dX12_ruled_37 rfl (lv_at hl 0 rfl) ?_
    refine gx_getr (j := 216) S hK hw t_199 cl_13 26 (by decide) rfl mw_1440 rfl dX12_ruled_38 ?_
    refine lv_iload hx hb dX12_ruled_41 (lv_at hl 4 rfl) ?_
    obtain ⟨j_2, hj_2, hi_2, h⟩ := ck_some h
    refine gx_iald S hK hw t_216 j_2 hj_2 hi_2 dX12_ruled_43 ?_
    refine lv_istore (lv' := [(5, .int (σ 216 j_2)), (0, .ref (E.2.2 + 199)), (1, .ref (E.2.2 + q)), (2, .int x2), (3, .int x3), (4, .int x4)]) hx hb dX12_ruled_44 hl (by decide) rfl (fun ls hl => ?_)
    obtain ⟨v_3, e_3, h⟩ := nm_some h
    have hl : lv_has ls 6 [(5, .int v_3), (0, .ref (E.2.2 + 199)), (1, .ref (E.2.2 + q)), (2, .int x2), (3, .int x3), (4, .int x4)] := by rw [e_3]; exact hl
    refine lv_iload hx hb dX12_ruled_46 (lv_at hl 0 rfl) ?_
    refine lv_sipush (v := 3000) hx hb dX12_ruled_48 (by decide) ?_
    refine lv_icmp_ne (tgt := 74) hx hb dX12_ruled_51 (by decide) (fun c_4 => ?_) (fun c_4 => ?_)
    · rw [if_neg c_4] at h
      refine lv_iload hx hb dX12_ruled_74 (lv_at hl 0 rfl) ?_
      refine lv_sipush (v := 2000) hx hb dX12_ruled_76 (by decide) ?_
      refine lv_icmp_lt (tgt := 119) hx hb dX12_ruled_79 (by decide) (fun c_5 => ?_) (fun c_5 => ?_)
      · rw [if_pos c_5] at h
        refine lv_aload_n hx hb dX12_ruled_119 rfl (lv_at hl 1 rfl) ?_
        refine gx_getr (j := 218) S hK hw t_199 cl_13 30 (by decide) rfl mw_1444 rfl dX12_ruled_120 ?_
        refine lv_iload_n hx hb dX12_ruled_123 rfl (lv_at hl 4 rfl) ?_
        refine lv_iload hx hb dX12_ruled_124 (lv_at hl 0 rfl) ?_
        refine lv_sipush (v := 1000) hx hb dX12_ruled_126 (by decide) ?_
        refine lv_icmp_lt (tgt := 147) hx hb dX12_ruled_129 (by decide) (fun c_6 => ?_) (fun c_6 => ?_)
        · rw [if_pos c_6] at h
          refine lv_iload hx hb dX12_ruled_147 (lv_at hl 0 rfl) ?_
          obtain ⟨j_7, hj_7, hi_7, h⟩ := ck_some h
          refine gx_iast S hK gx_ok hw t_218 j_7 hj_7 hi_7 dX12_ruled_149 (fun H locs hw => ?_)
          obtain ⟨σ_8, e_8, h⟩ := nm_some h
          rw [← e_8] at hw
          refine lv_iinc (v := x3 + 1) (lv' := [(3, .int (x3 + 1)), (5, .int v_3), (0, .ref (E.2.2 + 199)), (1, .ref (E.2.2 + q)), (2, .int x2), (4, .int x4)]) hx hb dX12_ruled_150 hl (k := 4) rfl rfl (by decide) rfl (fun ls hl => ?_)
          obtain ⟨v_9, e_9, h⟩ := nm_some h
          have hl : lv_has ls 6 [(3, .int v_9), (5, .int v_3), (0, .ref (E.2.2 + 199)), (1, .ref (E.2.2 + q)), (2, .int x2), (4, .int x4)] := by rw [e_9]; exact hl
          refine lv_iinc (v := x4 + 1) (lv' := [(4, .int (x4 + 1)), (3, .int v_9), (5, .int v_3), (0, .ref (E.2.2 + 199)), (1, .ref (E.2.2 + q)), (2, .int x2)]) hx hb dX12_ruled_153 hl (k := 5) rfl rfl (by decide) rfl (fun ls hl => ?_)
          obtain ⟨v_10, e_10, h⟩ := nm_some h
          have hl : lv_has ls 6 [(4, .int v_10), (3, .int v_9), (5, .int v_3), (0, .ref (E.2.2 + 199)), (1, .ref (E.2.2 + q)), (2, .int x2)] := by rw [e_10]; exact hl
          refine lv_goto (tgt := 28) hx hb dX12_ruled_156 (by decide) ?_
          exact hrec_28 σ_8 τ x2 v_9 v_10 _ _ _ _ _ _ h hw (lv_sub hl [3, 4, 5, 1, 0] rfl)
        · rw [if_neg c_6] at h
          refine lv_aload_n hx hb dX12_ruled_132 rfl (lv_at hl 1 rfl) ?_
          refine lv_aload_n hx hb dX12_ruled_133 rfl (lv_at hl 2 rfl) ?_
          refine lv_iload_n hx hb dX12_ruled_134 rfl (lv_at hl 3 rfl) ?_
          refine lv_iload hx hb dX12_ruled_135 (lv_at hl 0 rfl) ?_
          refine lv_sipush (v := 1000) hx hb dX12_ruled_137 (by decide) ?_
          refine lv_isub hx hb dX12_ruled_140 ?_
          obtain ⟨r_11, σ_11, τ_11, q_11, h⟩ := bd_some h
          refine gx_cVi (As := [.ref (E.2.2 + q), .int x2, .int (v_3 - 1000)]) (rest := [.int x3, .ref (E.2.2 + 218)]) S hK gx_ok hw (c_X12_askedOf l (E := E) N q tq σ τ x2 (v_3 - 1000) q_11) cw_X12_279 t_199 cl_13 ⟨Nat.le_of_ble_eq_true rfl, Nat.le_of_ble_eq_true rfl⟩ rfl hl.1 rfl (Nat.le_of_ble_eq_true rfl) ⟨Nat.le_of_ble_eq_true rfl, Nat.le_of_ble_eq_true rfl⟩ dX12_ruled_141 (fun r9 σ9 τ9 H locs hp hw => ?_)
          obtain ⟨rfl, rfl, rfl⟩ := hp
          refine lv_goto (tgt := 149) hx hb dX12_ruled_144 (by decide) ?_
          obtain ⟨j_12, hj_12, hi_12, h⟩ := ck_some h
          refine gx_iast S hK gx_ok hw t_218 j_12 hj_12 hi_12 dX12_ruled_149 (fun H locs hw => ?_)
          obtain ⟨σ_13, e_13, h⟩ := nm_some h
          rw [← e_13] at hw
          refine lv_iinc (v := x3 + 1) (lv' := [(3, .int (x3 + 1)), (5, .int v_3), (0, .ref (E.2.2 + 199)), (1, .ref (E.2.2 + q)), (2, .int x2), (4, .int x4)]) hx hb dX12_ruled_150 hl (k := 4) rfl rfl (by decide) rfl (fun ls hl => ?_)
          obtain ⟨v_14, e_14, h⟩ := nm_some h
          have hl : lv_has ls 6 [(3, .int v_14), (5, .int v_3), (0, .ref (E.2.2 + 199)), (1, .ref (E.2.2 + q)), (2, .int x2), (4, .int x4)] := by rw [e_14]; exact hl
          refine lv_iinc (v := x4 + 1) (lv' := [(4, .int (x4 + 1)), (3, .int v_14), (5, .int v_3), (0, .ref (E.2.2 + 199)), (1, .ref (E.2.2 + q)), (2, .int x2)]) hx hb dX12_ruled_153 hl (k := 5) rfl rfl (by decide) rfl (fun ls hl => ?_)
          obtain ⟨v_15, e_15, h⟩ := nm_some h
          have hl : lv_has ls 6 [(4, .int v_15), (3, .int v_14), (5, .int v_3), (0, .ref (E.2.2 + 199)), (1, .ref (E.2.2 + q)), (2, .int x2)] := by rw [e_15]; exact hl
          refine lv_goto (tgt := 28) hx hb dX12_ruled_156 (by decide) ?_
          exact hrec_28 σ_13 τ_11 x2 v_14 v_15 _ _ _ _ _ _ h hw (lv_sub hl [3, 4, 5, 1, 0] rfl)
      · rw [if_neg c_5] at h
        refine lv_iinc (v := x3 + (-1)) (lv' := [(3, .int (x3 + (-1))), (5, .int v_3), (0, .ref (E.2.2 + 199)), (1, .ref (E.2.2 + q)), (2, .int x2), (4, .int x4)]) hx hb dX12_ruled_82 hl (k := 4) rfl rfl (by decide) rfl (fun ls hl => ?_)
        obtain ⟨v_16, e_16, h⟩ := nm_some h
        have hl : lv_has ls 6 [(3, .int v_16), (5, .int v_3), (0, .ref (E.2.2 + 199)), (1, .ref (E.2.2 + q)), (2, .int x2), (4, .int x4)] := by rw [e_16]; exact hl
        refine lv_aload_n hx hb dX12_ruled_85 rfl (lv_at hl 2 rfl) ?_
        refine gx_getr (j := 218) S hK hw t_199 cl_13 30 (by decide) rfl mw_1444 rfl dX12_ruled_86 ?_
        refine lv_iload_n hx hb dX12_ruled_89 rfl (lv_at hl 0 rfl) ?_
        refine lv_iconst (v := 1) hx hb dX12_ruled_90 (by decide) ?_
        refine lv_isub hx hb dX12_ruled_91 ?_
        refine lv_iload hx hb dX12_ruled_92 (lv_at hl 1 rfl) ?_
        refine lv_sipush (v := 2000) hx hb dX12_ruled_94 (by decide) ?_
        refine lv_isub hx hb dX12_ruled_97 ?_
        refine lv_aload_n hx hb dX12_ruled_98 rfl (lv_at hl 2 rfl) ?_
        refine gx_getr (j := 218) S hK hw t_199 cl_13 30 (by decide) rfl mw_1444 rfl dX12_ruled_99 ?_
        refine lv_iload_n hx hb dX12_ruled_102 rfl (lv_at hl 0 rfl) ?_
        refine lv_iconst (v := 1) hx hb dX12_ruled_103 (by decide) ?_
        refine lv_isub hx hb dX12_ruled_104 ?_
        obtain ⟨j_17, hj_17, hi_17, h⟩ := ck_some h
        refine gx_iald S hK hw t_218 j_17 hj_17 hi_17 dX12_ruled_105 ?_
        refine lv_aload_n hx hb dX12_ruled_106 rfl (lv_at hl 2 rfl) ?_
        refine gx_getr (j := 218) S hK hw t_199 cl_13 30 (by decide) rfl mw_1444 rfl dX12_ruled_107 ?_
        refine lv_iload_n hx hb dX12_ruled_110 rfl (lv_at hl 0 rfl) ?_
        obtain ⟨j_18, hj_18, hi_18, h⟩ := ck_some h
        refine gx_iald S hK hw t_218 j_18 hj_18 hi_18 dX12_ruled_111 ?_
        obtain ⟨r_19, σ_19, τ_19, q_19, h⟩ := bd_some h
        refine gx_cSi (As := [.int (v_3 - 2000), .int (σ 218 j_17), .int (σ 218 j_18)]) (rest := [.int (v_16 - 1), .ref (E.2.2 + 218)]) S hK gx_ok hw (c_X12_worked l (E := E) N σ τ (v_3 - 2000) (σ 218 j_17) (σ 218 j_18) q_19) cw_X12_275 ⟨Nat.le_of_ble_eq_true rfl, Nat.le_of_ble_eq_true rfl⟩ rfl hl.1 rfl (Nat.le_of_ble_eq_true rfl) ⟨Nat.le_of_ble_eq_true rfl, Nat.le_of_ble_eq_true rfl⟩ dX12_ruled_112 (fun r9 σ9 τ9 H locs hp hw => ?_)
        obtain ⟨rfl, rfl, rfl⟩ := hp
        refine gx_iast S hK gx_ok hw t_218 j_17 hj_17 hi_17 dX12_ruled_115 (fun H locs hw => ?_)
        obtain ⟨σ_20, e_20, h⟩ := nm_some h
        rw [← e_20] at hw
        refine lv_goto (tgt := 153) hx hb dX12_ruled_116 (by decide) ?_
        refine lv_iinc (v := x4 + 1) (lv' := [(4, .int (x4 + 1)), (3, .int v_16), (5, .int v_3), (0, .ref (E.2.2 + 199)), (1, .ref (E.2.2 + q)), (2, .int x2)]) hx hb dX12_ruled_153 hl (k := 5) rfl rfl (by decide) rfl (fun ls hl => ?_)
        obtain ⟨v_21, e_21, h⟩ := nm_some h
        have hl : lv_has ls 6 [(4, .int v_21), (3, .int v_16), (5, .int v_3), (0, .ref (E.2.2 + 199)), (1, .ref (E.2.2 + q)), (2, .int x2)] := by rw [e_21]; exact hl
        refine lv_goto (tgt := 28) hx hb dX12_ruled_156 (by decide) ?_
        exact hrec_28 σ_20 τ_19 x2 v_16 v_21 _ _ _ _ _ _ h hw (lv_sub hl [3, 4, 5, 1, 0] rfl)
    · rw [if_pos c_4] at h
      refine lv_aload_n hx hb dX12_ruled_54 rfl (lv_at hl 1 rfl) ?_
      refine gx_getr (j := 218) S hK hw t_199 cl_13 30 (by decide) rfl mw_1444 rfl dX12_ruled_55 ?_
      refine lv_iload_n hx hb dX12_ruled_58 rfl (lv_at hl 4 rfl) ?_
      refine lv_iconst (v := 1) hx hb dX12_ruled_59 (by decide) ?_
      refine lv_isub hx hb dX12_ruled_60 ?_
      refine lv_aload_n hx hb dX12_ruled_61 rfl (lv_at hl 1 rfl) ?_
      refine gx_getr (j := 218) S hK hw t_199 cl_13 30 (by decide) rfl mw_1444 rfl dX12_ruled_62 ?_
      refine lv_iload_n hx hb dX12_ruled_65 rfl (lv_at hl 4 rfl) ?_
      refine lv_iconst (v := 1) hx hb dX12_ruled_66 (by decide) ?_
      refine lv_isub hx hb dX12_ruled_67 ?_
      obtain ⟨j_22, hj_22, hi_22, h⟩ := ck_some h
      refine gx_iald S hK hw t_218 j_22 hj_22 hi_22 dX12_ruled_68 ?_
      refine lv_ineg hx hb dX12_ruled_69 ?_
      refine gx_iast S hK gx_ok hw t_218 j_22 hj_22 hi_22 dX12_ruled_70 (fun H locs hw => ?_)
      obtain ⟨σ_23, e_23, h⟩ := nm_some h
      rw [← e_23] at hw
      refine lv_goto (tgt := 153) hx hb dX12_ruled_71 (by decide) ?_
      refine lv_iinc (v := x4 + 1) (lv' := [(4, .int (x4 + 1)), (5, .int v_3), (0, .ref (E.2.2 + 199)), (1, .ref (E.2.2 + q)), (2, .int x2), (3, .int x3)]) hx hb dX12_ruled_153 hl (k := 5) rfl rfl (by decide) rfl (fun ls hl => ?_)
      obtain ⟨v_24, e_24, h⟩ := nm_some h
      have hl : lv_has ls 6 [(4, .int v_24), (5, .int v_3), (0, .ref (E.2.2 + 199)), (1, .ref (E.2.2 + q)), (2, .int x2), (3, .int x3)] := by rw [e_24]; exact hl
      refine lv_goto (tgt := 28) hx hb dX12_ruled_156 (by decide) ?_
      exact hrec_28 σ_23 τ x2 x3 v_24 _ _ _ _ _ _ h hw (lv_sub hl [2, 3, 4, 5, 0] rfl)
set_option maxHeartbeats 4000000 in
set_option maxRecDepth 100000 in
theorem h_X12_ruled_28 (l : Launch) (S : CallFix P9 m9 C9 cX12_ruled 6 s av.toArray gx_G RX12) (hr : meth.sig.returnType = (some .int)) (hlk : meth.locks = false) (hK : gx_K E s) (N : Nat) (q : Nat) (tq : gx_tb[q]? = some (.inr (0, 45, []))) : ∀ (n : Nat) (σ : gI) (τ : gJ) (x2 : Int32) (x3 : Int32) (x4 : Int32) (r : Int32) (σ1 : gI) (τ1 : gJ), H_X12_ruled_28 N q n σ τ x2 x3 x4 = some (r, σ1, τ1) → ∀ (H : Heap) (locs : List Loc) (ls : Array Slot), gx_W gx_tb gx_tb.length E s σ τ H locs → lv_has ls 6 [(0, .ref (E.2.2 + 199)), (1, .ref (E.2.2 + q)), (2, .int x2), (3, .int x3), (4, .int x4)] → W P9 l e9 (gx_rm 3) s m9 av.toArray below meth C9 H locs 0 0 (gq_Qi below av s E r σ1 τ1) (F0 m9 28 ls []) := by
  intro n
  induction n with
  | zero => intro σ τ x2 x3 x4 r σ1 τ1 h; cases h
  | succ n ih =>
    intro σ τ x2 x3 x4 r σ1 τ1 h H locs ls hw hl
    exact k_X12_ruled_28 l S hr hlk hK N q tq (H_X12_ruled_28 N q n) (fun σ τ x2 x3 x4 r σ1 τ1 H locs ls h hw hl => ih σ τ x2 x3 x4 r σ1 τ1 h H locs ls hw hl) σ τ x2 x3 x4 h hw hl
set_option maxHeartbeats 4000000 in
set_option maxRecDepth 100000 in
theorem b_X12_ruled_0 (l : Launch) (S : CallFix P9 m9 C9 cX12_ruled 6 s av.toArray gx_G RX12) (hr : meth.sig.returnType = (some .int)) (hlk : meth.locks = false) (hK : gx_K E s) (N : Nat) (q : Nat) (tq : gx_tb[q]? = some (.inr (0, 45, []))) (σ : gI) (τ : gJ) (x2 : Int32) {r : Int32} {σ1 : gI} {τ1 : gJ} (h : B_X12_ruled_0 N q σ τ x2 = some (r, σ1, τ1)) {H : Heap} {locs : List Loc} {ls : Array Slot} (hw : gx_W gx_tb gx_tb.length E s σ τ H locs) (hl : lv_has ls 6 [(0, .ref (E.2.2 + 199)), (1, .ref (E.2.2 + q)), (2, .int x2)]) : W P9 l e9 (gx_rm 3) s m9 av.toArray below meth C9 H locs 0 0 (gq_Qi below av s E r σ1 τ1) (F0 m9 0 ls []) := by
  have hx := S.1
  have hb := S.2.1
  unfold B_X12_ruled_0 at h
  refine lv_aload_n hx hb dX12_ruled_0 rfl (lv_at hl 0 rfl) ?_
  refine gx_get S hK hw t_199 cl_13 28 (by decide) rfl mw_1442 rfl dX12_ruled_1 ?_
  refine lv_if_ne (tgt := 23) hx hb dX12_ruled_4 (by decide) (fun c_1 => ?_) (fun c_1 => ?_)
  · rw [if_neg c_1] at h
    refine lv_iconst (v := 0) hx hb dX12_ruled_23 (by decide) ?_
    refine lv_istore_n (lv' := [(3, .int 0), (0, .ref (E.2.2 + 199)), (1, .ref (E.2.2 + q)), (2, .int x2)]) hx hb dX12_ruled_24 rfl hl (by decide) rfl (fun ls hl => ?_)
    refine lv_iconst (v := 0) hx hb dX12_ruled_25 (by decide) ?_
    refine lv_istore (lv' := [(4, .int 0), (3, .int 0), (0, .ref (E.2.2 + 199)), (1, .ref (E.2.2 + q)), (2, .int x2)]) hx hb dX12_ruled_26 hl (by decide) rfl (fun ls hl => ?_)
    exact h_X12_ruled_28 l S hr hlk hK N q tq N σ τ x2 0 0 _ _ _ h _ _ _ hw (lv_sub hl [2, 3, 4, 1, 0] rfl)
  · rw [if_pos c_1] at h
    refine lv_aload_n hx hb dX12_ruled_7 rfl (lv_at hl 1 rfl) ?_
    refine lv_bipush (v := 42) hx hb dX12_ruled_8 (by decide) ?_
    refine gx_iald S hK hw tq 42 rfl (gx_in rfl (by decide) (by decide)) dX12_ruled_10 ?_
    refine lv_aload_n hx hb dX12_ruled_11 rfl (lv_at hl 1 rfl) ?_
    refine lv_bipush (v := 7) hx hb dX12_ruled_12 (by decide) ?_
    refine lv_iload_n hx hb dX12_ruled_14 rfl (lv_at hl 2 rfl) ?_
    refine lv_imul hx hb dX12_ruled_15 ?_
    refine lv_iconst (v := 0) hx hb dX12_ruled_16 (by decide) ?_
    refine lv_iadd hx hb dX12_ruled_17 ?_
    obtain ⟨j_2, hj_2, hi_2, h⟩ := ck_some h
    refine gx_iald S hK hw tq j_2 hj_2 hi_2 dX12_ruled_18 ?_
    refine lv_ishr hx hb dX12_ruled_19 ?_
    refine lv_iconst (v := 1) hx hb dX12_ruled_20 (by decide) ?_
    refine lv_iand hx hb dX12_ruled_21 ?_
    obtain ⟨rfl, rfl, rfl⟩ := sm_inj h
    exact gx_ri (post := gq_p (((σ q 42) >>> ((σ q j_2) &&& 31)) &&& 1) σ τ) (v := ((σ q 42) >>> ((σ q j_2) &&& 31)) &&& 1) S hr hlk hw rfl dX12_ruled_22 ⟨rfl, rfl, rfl⟩
set_option maxHeartbeats 4000000 in
set_option maxRecDepth 100000 in
theorem c_X12_ruled (l : Launch) {E : gE} (N : Nat) (q : Nat) (tq : gx_tb[q]? = some (.inr (0, 45, []))) (σ : gI) (τ : gJ) (x2 : Int32) {r : Int32} {σ1 : gI} {τ1 : gJ} (h : B_X12_ruled_0 N q σ τ x2 = some (r, σ1, τ1)) : gx_Mi l yX12_ruled cX12_ruled 6 (some .int) 3 gx_tb E σ τ [.ref (E.2.2 + 199), .ref (E.2.2 + q), .int x2] (gq_p r σ1 τ1) := by
  refine gx_bi (by decide +kernel) (Nat.le_of_ble_eq_true rfl) ?_
  intro P9 e9 s m9 below meth C9 S hr hlk hK hw ls hl
  have hl : lv_has ls 6 [(0, .ref (E.2.2 + 199)), (1, .ref (E.2.2 + q)), (2, .int x2)] := hl
  exact b_X12_ruled_0 l S hr hlk hK N q tq σ τ x2 h hw hl
/-! X12_steps -/
def B_X12_steps_274 (N : Nat) (q : Nat) (σ : gI) (τ : gJ) (x2 : Int32) (x3 : Int32) (x5 : Int32) (y0 : Int32) (y1 : Int32) (y2 : Int32) : Option (Int32 × gI × gJ) := ck y2 45 fun j_1 => nm (up2 σ q j_1 (y1 - y0)) fun σ_2 => ck (x3 + 1) 45 fun j_3 => if 0 ≤ σ_2 q j_3 then (ck x5 12 fun j_5 => if σ_2 201 j_5 = 6 then (bd (B_X12_ends_0 N q σ_2 τ x2 1) fun _ σ_9 τ_9 => ck (x3 + 4) 45 fun j_10 => if σ_9 q j_10 = 0 then (some (1, σ_9, τ_9)) else (some (0, σ_9, τ_9))) else (ck (x3 + 4) 45 fun j_7 => if σ_2 q j_7 = 0 then (some (1, σ_2, τ)) else (some (0, σ_2, τ)))) else (nm (up2 σ_2 q j_3 0) fun σ_12 => bd (B_X12_ends_0 N q σ_12 τ x2 2) fun _ σ_13 τ_13 => ck (x3 + 4) 45 fun j_14 => if σ_13 q j_14 = 0 then (some (1, σ_13, τ_13)) else (some (0, σ_13, τ_13)))
def B_X12_steps_211 (N : Nat) (q : Nat) (σ : gI) (τ : gJ) (x2 : Int32) (x3 : Int32) (x4 : Int32) (x5 : Int32) (y0 : Int32) : Option (Int32 × gI × gJ) := cb y0 <| nm (up2 σ 199 34 y0) fun σ_2 => ck (x3 + 0) 45 fun j_3 => nm (up2 σ_2 q j_3 x5) fun σ_4 => ck (x3 + 3) 45 fun j_5 => nm (up2 σ_4 q j_5 ((σ_4 q j_5) ||| (1 <<< (x5 &&& 31)))) fun σ_6 => ck (x3 + 1) 45 fun j_7 => if σ_6 199 33 = 0 then (ck x4 12 fun j_9 => if σ_6 201 j_9 = 2 then (B_X12_steps_274 N q σ_6 τ x2 x3 x5 (1 + (σ_6 204 j_9)) (σ_6 q j_7) (x3 + 1)) else (B_X12_steps_274 N q σ_6 τ x2 x3 x5 1 (σ_6 q j_7) (x3 + 1))) else (B_X12_steps_274 N q σ_6 τ x2 x3 x5 0 (σ_6 q j_7) (x3 + 1))
def B_X12_steps_180 (N : Nat) (q : Nat) (σ : gI) (τ : gJ) (x2 : Int32) (x3 : Int32) (x4 : Int32) : Option (Int32 × gI × gJ) := ck x4 12 fun j_1 => nm (σ 202 j_1) fun v_2 => if σ 199 34 = 0 then (if x4 = σ 199 35 then (B_X12_steps_211 N q σ τ x2 x3 x4 v_2 1) else (B_X12_steps_211 N q σ τ x2 x3 x4 v_2 0)) else (B_X12_steps_211 N q σ τ x2 x3 x4 v_2 1)
def B_X12_steps_150 (N : Nat) (q : Nat) (σ : gI) (τ : gJ) (x2 : Int32) (x3 : Int32) (x4 : Int32) : Option (Int32 × gI × gJ) := ck x4 12 fun j_1 => if σ 201 j_1 = 1 then (bd (B_X12_ruled_0 N q σ τ x2) fun r_3 σ_3 τ_3 => if r_3 = 0 then (B_X12_steps_180 N q σ_3 τ_3 x2 x3 x4) else (nm (σ_3 203 j_1) fun v_5 => if σ_3 199 34 = 0 then (if x4 = σ_3 199 35 then (B_X12_steps_211 N q σ_3 τ_3 x2 x3 x4 v_5 1) else (B_X12_steps_211 N q σ_3 τ_3 x2 x3 x4 v_5 0)) else (B_X12_steps_211 N q σ_3 τ_3 x2 x3 x4 v_5 1))) else (B_X12_steps_180 N q σ τ x2 x3 x4)
def B_X12_steps_94 (N : Nat) (q : Nat) (σ : gI) (τ : gJ) (x2 : Int32) (x3 : Int32) (x4 : Int32) : Option (Int32 × gI × gJ) := ck x4 12 fun j_1 => if σ 201 j_1 = 4 then (bd (B_X12_in_0 N σ τ (((σ q 43) - (σ q 43) / 10 * 10).toInt64) (((σ 204 j_1) / 10).toInt64) (((σ 204 j_1) - (σ 204 j_1) / 10 * 10).toInt64)) fun r_3 σ_3 τ_3 => if r_3 = 0 then (B_X12_steps_150 N q σ_3 τ_3 x2 x3 x4) else (bd (B_X12_ends_0 N q σ_3 τ_3 x2 2) fun _ σ_5 τ_5 => some (0, σ_5, τ_5))) else (B_X12_steps_150 N q σ τ x2 x3 x4)
def B_X12_steps_40 (N : Nat) (q : Nat) (σ : gI) (τ : gJ) (x2 : Int32) (x3 : Int32) (x4 : Int32) : Option (Int32 × gI × gJ) := ck x4 12 fun j_1 => if σ 201 j_1 = 3 then (ck (x3 + 2) 45 fun j_3 => if σ 204 j_1 ≤ σ q j_3 then (if σ 199 33 = 0 then (nm (up2 σ q j_3 ((σ q j_3) - (σ 204 j_1))) fun σ_6 => B_X12_steps_94 N q σ_6 τ x2 x3 x4) else (nm (up2 σ q j_3 ((σ q j_3) - 0)) fun σ_7 => B_X12_steps_94 N q σ_7 τ x2 x3 x4)) else (some (0, σ, τ))) else (B_X12_steps_94 N q σ τ x2 x3 x4)
def B_X12_steps_0 (N : Nat) (q : Nat) (σ : gI) (τ : gJ) (x2 : Int32) : Option (Int32 × gI × gJ) := nm (7 * x2) fun v_1 => ck (v_1 + 0) 45 fun j_2 => nm (σ q j_2) fun v_3 => ck v_3 12 fun j_4 => if σ 201 j_4 = 5 then (dz (σ 204 j_4) <| if (σ q 43) - (σ q 43) / (σ 204 j_4) * (σ 204 j_4) = 0 then (B_X12_steps_40 N q σ τ x2 v_1 v_3) else (some (0, σ, τ))) else (B_X12_steps_40 N q σ τ x2 v_1 v_3)
set_option maxHeartbeats 4000000 in
set_option maxRecDepth 100000 in
theorem b_X12_steps_274 (l : Launch) (S : CallFix P9 m9 C9 cX12_steps 6 s av.toArray gx_G RX12) (hr : meth.sig.returnType = (some .boolean)) (hlk : meth.locks = false) (hK : gx_K E s) (N : Nat) (q : Nat) (tq : gx_tb[q]? = some (.inr (0, 45, []))) (σ : gI) (τ : gJ) (x2 : Int32) (x3 : Int32) (x5 : Int32) (y0 : Int32) (y1 : Int32) (y2 : Int32) {r : Int32} {σ1 : gI} {τ1 : gJ} (h : B_X12_steps_274 N q σ τ x2 x3 x5 y0 y1 y2 = some (r, σ1, τ1)) {H : Heap} {locs : List Loc} {ls : Array Slot} (hw : gx_W gx_tb gx_tb.length E s σ τ H locs) (hl : lv_has ls 6 [(0, .ref (E.2.2 + 199)), (1, .ref (E.2.2 + q)), (2, .int x2), (3, .int x3), (5, .int x5)]) : W P9 l e9 (gx_rm 4) s m9 av.toArray below meth C9 H locs 0 0 (gq_Qi below av s E r σ1 τ1) (F0 m9 274 ls [.int y0, .int y1, .int y2, .ref (E.2.2 + q)]) := by
  have hx := S.1
  have hb := S.2.1
  unfold B_X12_steps_274 at h
  refine lv_isub hx hb dX12_steps_274 ?_
  obtain ⟨j_1, hj_1, hi_1, h⟩ := ck_some h
  refine gx_iast S hK gx_ok hw tq j_1 hj_1 hi_1 dX12_steps_275 (fun H locs hw => ?_)
  obtain ⟨σ_2, e_2, h⟩ := nm_some h
  rw [← e_2] at hw
  refine lv_aload_n hx hb dX12_steps_276 rfl (lv_at hl 1 rfl) ?_
  refine lv_iload_n hx hb dX12_steps_277 rfl (lv_at hl 3 rfl) ?_
  refine lv_iconst (v := 1) hx hb dX12_steps_278 (by decide) ?_
  refine lv_iadd hx hb dX12_steps_279 ?_
  obtain ⟨j_3, hj_3, hi_3, h⟩ := ck_some h
  refine gx_iald S hK hw tq j_3 hj_3 hi_3 dX12_steps_280 ?_
  refine lv_if_ge (tgt := 300) hx hb dX12_steps_281 (by decide) (fun c_4 => ?_) (fun c_4 => ?_)
  · rw [if_pos c_4] at h
    refine lv_aload_n hx hb dX12_steps_300 rfl (lv_at hl 0 rfl) ?_
    refine gx_getr (j := 201) S hK hw t_199 cl_13 5 (by decide) rfl mw_1419 rfl dX12_steps_301 ?_
    refine lv_iload hx hb dX12_steps_304 (lv_at hl 4 rfl) ?_
    obtain ⟨j_5, hj_5, hi_5, h⟩ := ck_some h
    refine gx_iald S hK hw t_201 j_5 hj_5 hi_5 dX12_steps_306 ?_
    refine lv_bipush (v := 6) hx hb dX12_steps_307 (by decide) ?_
    refine lv_icmp_ne (tgt := 319) hx hb dX12_steps_309 (by decide) (fun c_6 => ?_) (fun c_6 => ?_)
    · rw [if_neg c_6] at h
      refine lv_aload_n hx hb dX12_steps_319 rfl (lv_at hl 1 rfl) ?_
      refine lv_iload_n hx hb dX12_steps_320 rfl (lv_at hl 3 rfl) ?_
      refine lv_iconst (v := 4) hx hb dX12_steps_321 (by decide) ?_
      refine lv_iadd hx hb dX12_steps_322 ?_
      obtain ⟨j_7, hj_7, hi_7, h⟩ := ck_some h
      refine gx_iald S hK hw tq j_7 hj_7 hi_7 dX12_steps_323 ?_
      refine lv_if_ne (tgt := 331) hx hb dX12_steps_324 (by decide) (fun c_8 => ?_) (fun c_8 => ?_)
      · rw [if_neg c_8] at h
        refine lv_iconst (v := 0) hx hb dX12_steps_331 (by decide) ?_
        obtain ⟨rfl, rfl, rfl⟩ := sm_inj h
        exact gx_ri (post := gq_p 0 σ_2 τ) (v := 0) S hr hlk hw rfl dX12_steps_332 ⟨rfl, rfl, rfl⟩
      · rw [if_pos c_8] at h
        refine lv_iconst (v := 1) hx hb dX12_steps_327 (by decide) ?_
        refine lv_goto (tgt := 332) hx hb dX12_steps_328 (by decide) ?_
        obtain ⟨rfl, rfl, rfl⟩ := sm_inj h
        exact gx_ri (post := gq_p 1 σ_2 τ) (v := 1) S hr hlk hw rfl dX12_steps_332 ⟨rfl, rfl, rfl⟩
    · rw [if_pos c_6] at h
      refine lv_aload_n hx hb dX12_steps_312 rfl (lv_at hl 0 rfl) ?_
      refine lv_aload_n hx hb dX12_steps_313 rfl (lv_at hl 1 rfl) ?_
      refine lv_iload_n hx hb dX12_steps_314 rfl (lv_at hl 2 rfl) ?_
      refine lv_iconst (v := 1) hx hb dX12_steps_315 (by decide) ?_
      obtain ⟨u_9, σ_9, τ_9, q_9, h⟩ := bd_some h
      refine gx_cVv (As := [.ref (E.2.2 + q), .int x2, .int 1]) (rest := []) S hK gx_ok hw (c_X12_ends l (E := E) N q tq σ_2 τ x2 1 q_9) cw_X12_287 t_199 cl_13 ⟨Nat.le_of_ble_eq_true rfl, Nat.le_of_ble_eq_true rfl⟩ rfl hl.1 rfl (Nat.le_of_ble_eq_true rfl) ⟨Nat.le_of_ble_eq_true rfl, Nat.le_of_ble_eq_true rfl⟩ dX12_steps_316 (fun σ9 τ9 H locs hp hw => ?_)
      obtain ⟨rfl, rfl⟩ := hp
      refine lv_aload_n hx hb dX12_steps_319 rfl (lv_at hl 1 rfl) ?_
      refine lv_iload_n hx hb dX12_steps_320 rfl (lv_at hl 3 rfl) ?_
      refine lv_iconst (v := 4) hx hb dX12_steps_321 (by decide) ?_
      refine lv_iadd hx hb dX12_steps_322 ?_
      obtain ⟨j_10, hj_10, hi_10, h⟩ := ck_some h
      refine gx_iald S hK hw tq j_10 hj_10 hi_10 dX12_steps_323 ?_
      refine lv_if_ne (tgt := 331) hx hb dX12_steps_324 (by decide) (fun c_11 => ?_) (fun c_11 => ?_)
      · rw [if_neg c_11] at h
        refine lv_iconst (v := 0) hx hb dX12_steps_331 (by decide) ?_
        obtain ⟨rfl, rfl, rfl⟩ := sm_inj h
        exact gx_ri (post := gq_p 0 σ_9 τ_9) (v := 0) S hr hlk hw rfl dX12_steps_332 ⟨rfl, rfl, rfl⟩
      · rw [if_pos c_11] at h
        refine lv_iconst (v := 1) hx hb dX12_steps_327 (by decide) ?_
        refine lv_goto (tgt := 332) hx hb dX12_steps_328 (by decide) ?_
        obtain ⟨rfl, rfl, rfl⟩ := sm_inj h
        exact gx_ri (post := gq_p 1 σ_9 τ_9) (v := 1) S hr hlk hw rfl dX12_steps_332 ⟨rfl, rfl, rfl⟩
  · rw [if_neg c_4] at h
    refine lv_aload_n hx hb dX12_steps_284 rfl (lv_at hl 1 rfl) ?_
    refine lv_iload_n hx hb dX12_steps_285 rfl (lv_at hl 3 rfl) ?_
    refine lv_iconst (v := 1) hx hb dX12_steps_286 (by decide) ?_
    refine lv_iadd hx hb dX12_steps_287 ?_
    refine lv_iconst (v := 0) hx hb dX12_steps_288 (by decide) ?_
    refine gx_iast S hK gx_ok hw tq j_3 hj_3 hi_3 dX12_steps_289 (fun H locs hw => ?_)
    obtain ⟨σ_12, e_12, h⟩ := nm_some h
    rw [← e_12] at hw
    refine lv_aload_n hx hb dX12_steps_290 rfl (lv_at hl 0 rfl) ?_
    refine lv_aload_n hx hb dX12_steps_291 rfl (lv_at hl 1 rfl) ?_
    refine lv_iload_n hx hb dX12_steps_292 rfl (lv_at hl 2 rfl) ?_
    refine lv_iconst (v := 2) hx hb dX12_steps_293 (by decide) ?_
    obtain ⟨u_13, σ_13, τ_13, q_13, h⟩ := bd_some h
    refine gx_cVv (As := [.ref (E.2.2 + q), .int x2, .int 2]) (rest := []) S hK gx_ok hw (c_X12_ends l (E := E) N q tq σ_12 τ x2 2 q_13) cw_X12_287 t_199 cl_13 ⟨Nat.le_of_ble_eq_true rfl, Nat.le_of_ble_eq_true rfl⟩ rfl hl.1 rfl (Nat.le_of_ble_eq_true rfl) ⟨Nat.le_of_ble_eq_true rfl, Nat.le_of_ble_eq_true rfl⟩ dX12_steps_294 (fun σ9 τ9 H locs hp hw => ?_)
    obtain ⟨rfl, rfl⟩ := hp
    refine lv_goto (tgt := 319) hx hb dX12_steps_297 (by decide) ?_
    refine lv_aload_n hx hb dX12_steps_319 rfl (lv_at hl 1 rfl) ?_
    refine lv_iload_n hx hb dX12_steps_320 rfl (lv_at hl 3 rfl) ?_
    refine lv_iconst (v := 4) hx hb dX12_steps_321 (by decide) ?_
    refine lv_iadd hx hb dX12_steps_322 ?_
    obtain ⟨j_14, hj_14, hi_14, h⟩ := ck_some h
    refine gx_iald S hK hw tq j_14 hj_14 hi_14 dX12_steps_323 ?_
    refine lv_if_ne (tgt := 331) hx hb dX12_steps_324 (by decide) (fun c_15 => ?_) (fun c_15 => ?_)
    · rw [if_neg c_15] at h
      refine lv_iconst (v := 0) hx hb dX12_steps_331 (by decide) ?_
      obtain ⟨rfl, rfl, rfl⟩ := sm_inj h
      exact gx_ri (post := gq_p 0 σ_13 τ_13) (v := 0) S hr hlk hw rfl dX12_steps_332 ⟨rfl, rfl, rfl⟩
    · rw [if_pos c_15] at h
      refine lv_iconst (v := 1) hx hb dX12_steps_327 (by decide) ?_
      refine lv_goto (tgt := 332) hx hb dX12_steps_328 (by decide) ?_
      obtain ⟨rfl, rfl, rfl⟩ := sm_inj h
      exact gx_ri (post := gq_p 1 σ_13 τ_13) (v := 1) S hr hlk hw rfl dX12_steps_332 ⟨rfl, rfl, rfl⟩
set_option maxHeartbeats 4000000 in
set_option maxRecDepth 100000 in
theorem b_X12_steps_211 (l : Launch) (S : CallFix P9 m9 C9 cX12_steps 6 s av.toArray gx_G RX12) (hr : meth.sig.returnType = (some .boolean)) (hlk : meth.locks = false) (hK : gx_K E s) (N : Nat) (q : Nat) (tq : gx_tb[q]? = some (.inr (0, 45, []))) (σ : gI) (τ : gJ) (x2 : Int32) (x3 : Int32) (x4 : Int32) (x5 : Int32) (y0 : Int32) {r : Int32} {σ1 : gI} {τ1 : gJ} (h : B_X12_steps_211 N q σ τ x2 x3 x4 x5 y0 = some (r, σ1, τ1)) {H : Heap} {locs : List Loc} {ls : Array Slot} (hw : gx_W gx_tb gx_tb.length E s σ τ H locs) (hl : lv_has ls 6 [(0, .ref (E.2.2 + 199)), (1, .ref (E.2.2 + q)), (2, .int x2), (3, .int x3), (4, .int x4), (5, .int x5)]) : W P9 l e9 (gx_rm 4) s m9 av.toArray below meth C9 H locs 0 0 (gq_Qi below av s E r σ1 τ1) (F0 m9 211 ls [.int y0, .ref (E.2.2 + 199)]) := by
  have hx := S.1
  have hb := S.2.1
  unfold B_X12_steps_211 at h
  obtain ⟨hq_1, h⟩ := cb_some h
  refine gx_put S hK gx_ok hw t_199 cl_13 34 (by decide) rfl mw_1448 rfl rfl (ty := .boolean) (v := y0) (by decide +kernel) (cb_nar hq_1) (cb_fit hq_1) dX12_steps_211 (fun H locs hw => ?_)
  obtain ⟨σ_2, e_2, h⟩ := nm_some h
  rw [← e_2] at hw
  refine lv_aload_n hx hb dX12_steps_214 rfl (lv_at hl 1 rfl) ?_
  refine lv_iload_n hx hb dX12_steps_215 rfl (lv_at hl 3 rfl) ?_
  refine lv_iconst (v := 0) hx hb dX12_steps_216 (by decide) ?_
  refine lv_iadd hx hb dX12_steps_217 ?_
  refine lv_iload hx hb dX12_steps_218 (lv_at hl 5 rfl) ?_
  obtain ⟨j_3, hj_3, hi_3, h⟩ := ck_some h
  refine gx_iast S hK gx_ok hw tq j_3 hj_3 hi_3 dX12_steps_220 (fun H locs hw => ?_)
  obtain ⟨σ_4, e_4, h⟩ := nm_some h
  rw [← e_4] at hw
  refine lv_aload_n hx hb dX12_steps_221 rfl (lv_at hl 1 rfl) ?_
  refine lv_iload_n hx hb dX12_steps_222 rfl (lv_at hl 3 rfl) ?_
  refine lv_iconst (v := 3) hx hb dX12_steps_223 (by decide) ?_
  refine lv_iadd hx hb dX12_steps_224 ?_
  refine lv_dup2_11 hx hb dX12_steps_225 rfl rfl ?_
  obtain ⟨j_5, hj_5, hi_5, h⟩ := ck_some h
  refine gx_iald S hK hw tq j_5 hj_5 hi_5 dX12_steps_226 ?_
  refine lv_iconst (v := 1) hx hb dX12_steps_227 (by decide) ?_
  refine lv_iload hx hb dX12_steps_228 (lv_at hl 5 rfl) ?_
  refine lv_ishl hx hb dX12_steps_230 ?_
  refine lv_ior hx hb dX12_steps_231 ?_
  refine gx_iast S hK gx_ok hw tq j_5 hj_5 hi_5 dX12_steps_232 (fun H locs hw => ?_)
  obtain ⟨σ_6, e_6, h⟩ := nm_some h
  rw [← e_6] at hw
  refine lv_aload_n hx hb dX12_steps_233 rfl (lv_at hl 1 rfl) ?_
  refine lv_iload_n hx hb dX12_steps_234 rfl (lv_at hl 3 rfl) ?_
  refine lv_iconst (v := 1) hx hb dX12_steps_235 (by decide) ?_
  refine lv_iadd hx hb dX12_steps_236 ?_
  refine lv_dup2_11 hx hb dX12_steps_237 rfl rfl ?_
  obtain ⟨j_7, hj_7, hi_7, h⟩ := ck_some h
  refine gx_iald S hK hw tq j_7 hj_7 hi_7 dX12_steps_238 ?_
  refine lv_aload_n hx hb dX12_steps_239 rfl (lv_at hl 0 rfl) ?_
  refine gx_get S hK hw t_199 cl_13 33 (by decide) rfl mw_1447 rfl dX12_steps_240 ?_
  refine lv_if_eq (tgt := 250) hx hb dX12_steps_243 (by decide) (fun c_8 => ?_) (fun c_8 => ?_)
  · rw [if_pos c_8] at h
    refine lv_iconst (v := 1) hx hb dX12_steps_250 (by decide) ?_
    refine lv_aload_n hx hb dX12_steps_251 rfl (lv_at hl 0 rfl) ?_
    refine gx_getr (j := 201) S hK hw t_199 cl_13 5 (by decide) rfl mw_1419 rfl dX12_steps_252 ?_
    refine lv_iload hx hb dX12_steps_255 (lv_at hl 4 rfl) ?_
    obtain ⟨j_9, hj_9, hi_9, h⟩ := ck_some h
    refine gx_iald S hK hw t_201 j_9 hj_9 hi_9 dX12_steps_257 ?_
    refine lv_iconst (v := 2) hx hb dX12_steps_258 (by decide) ?_
    refine lv_icmp_ne (tgt := 272) hx hb dX12_steps_259 (by decide) (fun c_10 => ?_) (fun c_10 => ?_)
    · rw [if_neg c_10] at h
      refine lv_iconst (v := 0) hx hb dX12_steps_272 (by decide) ?_
      refine lv_iadd hx hb dX12_steps_273 ?_
      refine gx_top (v := 1) (by decide) ?_
      exact b_X12_steps_274 l S hr hlk hK N q tq σ_6 τ x2 x3 x5 1 (σ_6 q j_7) (x3 + 1) h hw (lv_sub hl [0, 1, 2, 3, 5] rfl)
    · rw [if_pos c_10] at h
      refine lv_aload_n hx hb dX12_steps_262 rfl (lv_at hl 0 rfl) ?_
      refine gx_getr (j := 204) S hK hw t_199 cl_13 8 (by decide) rfl mw_1422 rfl dX12_steps_263 ?_
      refine lv_iload hx hb dX12_steps_266 (lv_at hl 4 rfl) ?_
      refine gx_iald S hK hw t_204 j_9 hj_9 hi_9 dX12_steps_268 ?_
      refine lv_goto (tgt := 273) hx hb dX12_steps_269 (by decide) ?_
      refine lv_iadd hx hb dX12_steps_273 ?_
      exact b_X12_steps_274 l S hr hlk hK N q tq σ_6 τ x2 x3 x5 (1 + (σ_6 204 j_9)) (σ_6 q j_7) (x3 + 1) h hw (lv_sub hl [0, 1, 2, 3, 5] rfl)
  · rw [if_neg c_8] at h
    refine lv_iconst (v := 0) hx hb dX12_steps_246 (by decide) ?_
    refine lv_goto (tgt := 274) hx hb dX12_steps_247 (by decide) ?_
    exact b_X12_steps_274 l S hr hlk hK N q tq σ_6 τ x2 x3 x5 0 (σ_6 q j_7) (x3 + 1) h hw (lv_sub hl [0, 1, 2, 3, 5] rfl)
set_option maxHeartbeats 4000000 in
set_option maxRecDepth 100000 in
theorem b_X12_steps_180 (l : Launch) (S : CallFix P9 m9 C9 cX12_steps 6 s av.toArray gx_G RX12) (hr : meth.sig.returnType = (some .boolean)) (hlk : meth.locks = false) (hK : gx_K E s) (N : Nat) (q : Nat) (tq : gx_tb[q]? = some (.inr (0, 45, []))) (σ : gI) (τ : gJ) (x2 : Int32) (x3 : Int32) (x4 : Int32) {r : Int32} {σ1 : gI} {τ1 : gJ} (h : B_X12_steps_180 N q σ τ x2 x3 x4 = some (r, σ1, τ1)) {H : Heap} {locs : List Loc} {ls : Array Slot} (hw : gx_W gx_tb gx_tb.length E s σ τ H locs) (hl : lv_has ls 6 [(0, .ref (E.2.2 + 199)), (1, .ref (E.2.2 + q)), (2, .int x2), (3, .int x3), (4, .int x4)]) : W P9 l e9 (gx_rm 4) s m9 av.toArray below meth C9 H locs 0 0 (gq_Qi below av s E r σ1 τ1) (F0 m9 180 ls []) := by
  have hx := S.1
  have hb := S.2.1
  unfold B_X12_steps_180 at h
  refine lv_aload_n hx hb dX12_steps_180 rfl (lv_at hl 0 rfl) ?_
  refine gx_getr (j := 202) S hK hw t_199 cl_13 6 (by decide) rfl mw_1420 rfl dX12_steps_181 ?_
  refine lv_iload hx hb dX12_steps_184 (lv_at hl 4 rfl) ?_
  obtain ⟨j_1, hj_1, hi_1, h⟩ := ck_some h
  refine gx_iald S hK hw t_202 j_1 hj_1 hi_1 dX12_steps_186 ?_
  refine lv_istore (lv' := [(5, .int (σ 202 j_1)), (0, .ref (E.2.2 + 199)), (1, .ref (E.2.2 + q)), (2, .int x2), (3, .int x3), (4, .int x4)]) hx hb dX12_steps_187 hl (by decide) rfl (fun ls hl => ?_)
  obtain ⟨v_2, e_2, h⟩ := nm_some h
  have hl : lv_has ls 6 [(5, .int v_2), (0, .ref (E.2.2 + 199)), (1, .ref (E.2.2 + q)), (2, .int x2), (3, .int x3), (4, .int x4)] := by rw [e_2]; exact hl
  refine lv_aload_n hx hb dX12_steps_189 rfl (lv_at hl 1 rfl) ?_
  refine lv_aload_n hx hb dX12_steps_190 rfl (lv_at hl 1 rfl) ?_
  refine gx_get S hK hw t_199 cl_13 34 (by decide) rfl mw_1448 rfl dX12_steps_191 ?_
  refine lv_if_ne (tgt := 206) hx hb dX12_steps_194 (by decide) (fun c_3 => ?_) (fun c_3 => ?_)
  · rw [if_neg c_3] at h
    refine lv_iconst (v := 1) hx hb dX12_steps_206 (by decide) ?_
    refine lv_goto (tgt := 211) hx hb dX12_steps_207 (by decide) ?_
    exact b_X12_steps_211 l S hr hlk hK N q tq σ τ x2 x3 x4 v_2 1 h hw (lv_sub hl [1, 2, 3, 4, 5, 0] rfl)
  · rw [if_pos c_3] at h
    refine lv_iload hx hb dX12_steps_197 (lv_at hl 5 rfl) ?_
    refine lv_aload_n hx hb dX12_steps_199 rfl (lv_at hl 1 rfl) ?_
    refine gx_get S hK hw t_199 cl_13 35 (by decide) rfl mw_1449 rfl dX12_steps_200 ?_
    refine lv_icmp_ne (tgt := 210) hx hb dX12_steps_203 (by decide) (fun c_4 => ?_) (fun c_4 => ?_)
    · rw [if_neg c_4] at h
      refine lv_iconst (v := 0) hx hb dX12_steps_210 (by decide) ?_
      exact b_X12_steps_211 l S hr hlk hK N q tq σ τ x2 x3 x4 v_2 0 h hw (lv_sub hl [1, 2, 3, 4, 5, 0] rfl)
    · rw [if_pos c_4] at h
      refine lv_iconst (v := 1) hx hb dX12_steps_206 (by decide) ?_
      refine lv_goto (tgt := 211) hx hb dX12_steps_207 (by decide) ?_
      exact b_X12_steps_211 l S hr hlk hK N q tq σ τ x2 x3 x4 v_2 1 h hw (lv_sub hl [1, 2, 3, 4, 5, 0] rfl)
set_option maxHeartbeats 4000000 in
set_option maxRecDepth 100000 in
theorem b_X12_steps_150 (l : Launch) (S : CallFix P9 m9 C9 cX12_steps 6 s av.toArray gx_G RX12) (hr : meth.sig.returnType = (some .boolean)) (hlk : meth.locks = false) (hK : gx_K E s) (N : Nat) (q : Nat) (tq : gx_tb[q]? = some (.inr (0, 45, []))) (σ : gI) (τ : gJ) (x2 : Int32) (x3 : Int32) (x4 : Int32) {r : Int32} {σ1 : gI} {τ1 : gJ} (h : B_X12_steps_150 N q σ τ x2 x3 x4 = some (r, σ1, τ1)) {H : Heap} {locs : List Loc} {ls : Array Slot} (hw : gx_W gx_tb gx_tb.length E s σ τ H locs) (hl : lv_has ls 6 [(0, .ref (E.2.2 + 199)), (1, .ref (E.2.2 + q)), (2, .int x2), (3, .int x3), (4, .int x4)]) : W P9 l e9 (gx_rm 4) s m9 av.toArray below meth C9 H locs 0 0 (gq_Qi below av s E r σ1 τ1) (F0 m9 150 ls []) := by
  have hx := S.1
  have hb := S.2.1
  unfold B_X12_steps_150 at h
  refine lv_aload_n hx hb dX12_steps_150 rfl (lv_at hl 0 rfl) ?_
  refine gx_getr (j := 201) S hK hw t_199 cl_13 5 (by decide) rfl mw_1419 rfl dX12_steps_151 ?_
  refine lv_iload hx hb dX12_steps_154 (lv_at hl 4 rfl) ?_
  obtain ⟨j_1, hj_1, hi_1, h⟩ := ck_some h
  refine gx_iald S hK hw t_201 j_1 hj_1 hi_1 dX12_steps_156 ?_
  refine lv_iconst (v := 1) hx hb dX12_steps_157 (by decide) ?_
  refine lv_icmp_ne (tgt := 180) hx hb dX12_steps_158 (by decide) (fun c_2 => ?_) (fun c_2 => ?_)
  · rw [if_neg c_2] at h
    exact b_X12_steps_180 l S hr hlk hK N q tq σ τ x2 x3 x4 h hw (lv_sub hl [0, 1, 2, 3, 4] rfl)
  · rw [if_pos c_2] at h
    refine lv_aload_n hx hb dX12_steps_161 rfl (lv_at hl 0 rfl) ?_
    refine lv_aload_n hx hb dX12_steps_162 rfl (lv_at hl 1 rfl) ?_
    refine lv_iload_n hx hb dX12_steps_163 rfl (lv_at hl 2 rfl) ?_
    obtain ⟨r_3, σ_3, τ_3, q_3, h⟩ := bd_some h
    refine gx_cVi (As := [.ref (E.2.2 + q), .int x2]) (rest := []) S hK gx_ok hw (c_X12_ruled l (E := E) N q tq σ τ x2 q_3) cw_X12_291 t_199 cl_13 ⟨Nat.le_of_ble_eq_true rfl, Nat.le_of_ble_eq_true rfl⟩ rfl hl.1 rfl (Nat.le_of_ble_eq_true rfl) ⟨Nat.le_of_ble_eq_true rfl, Nat.le_of_ble_eq_true rfl⟩ dX12_steps_164 (fun r9 σ9 τ9 H locs hp hw => ?_)
    obtain ⟨rfl, rfl, rfl⟩ := hp
    refine lv_if_eq (tgt := 180) hx hb dX12_steps_167 (by decide) (fun c_4 => ?_) (fun c_4 => ?_)
    · rw [if_pos c_4] at h
      exact b_X12_steps_180 l S hr hlk hK N q tq σ_3 τ_3 x2 x3 x4 h hw (lv_sub hl [0, 1, 2, 3, 4] rfl)
    · rw [if_neg c_4] at h
      refine lv_aload_n hx hb dX12_steps_170 rfl (lv_at hl 0 rfl) ?_
      refine gx_getr (j := 203) S hK hw t_199 cl_13 7 (by decide) rfl mw_1421 rfl dX12_steps_171 ?_
      refine lv_iload hx hb dX12_steps_174 (lv_at hl 4 rfl) ?_
      refine gx_iald S hK hw t_203 j_1 hj_1 hi_1 dX12_steps_176 ?_
      refine lv_goto (tgt := 187) hx hb dX12_steps_177 (by decide) ?_
      refine lv_istore (lv' := [(5, .int (σ_3 203 j_1)), (0, .ref (E.2.2 + 199)), (1, .ref (E.2.2 + q)), (2, .int x2), (3, .int x3), (4, .int x4)]) hx hb dX12_steps_187 hl (by decide) rfl (fun ls hl => ?_)
      obtain ⟨v_5, e_5, h⟩ := nm_some h
      have hl : lv_has ls 6 [(5, .int v_5), (0, .ref (E.2.2 + 199)), (1, .ref (E.2.2 + q)), (2, .int x2), (3, .int x3), (4, .int x4)] := by rw [e_5]; exact hl
      refine lv_aload_n hx hb dX12_steps_189 rfl (lv_at hl 1 rfl) ?_
      refine lv_aload_n hx hb dX12_steps_190 rfl (lv_at hl 1 rfl) ?_
      refine gx_get S hK hw t_199 cl_13 34 (by decide) rfl mw_1448 rfl dX12_steps_191 ?_
      refine lv_if_ne (tgt := 206) hx hb dX12_steps_194 (by decide) (fun c_6 => ?_) (fun c_6 => ?_)
      · rw [if_neg c_6] at h
        refine lv_iconst (v := 1) hx hb dX12_steps_206 (by decide) ?_
        refine lv_goto (tgt := 211) hx hb dX12_steps_207 (by decide) ?_
        exact b_X12_steps_211 l S hr hlk hK N q tq σ_3 τ_3 x2 x3 x4 v_5 1 h hw (lv_sub hl [1, 2, 3, 4, 5, 0] rfl)
      · rw [if_pos c_6] at h
        refine lv_iload hx hb dX12_steps_197 (lv_at hl 5 rfl) ?_
        refine lv_aload_n hx hb dX12_steps_199 rfl (lv_at hl 1 rfl) ?_
        refine gx_get S hK hw t_199 cl_13 35 (by decide) rfl mw_1449 rfl dX12_steps_200 ?_
        refine lv_icmp_ne (tgt := 210) hx hb dX12_steps_203 (by decide) (fun c_7 => ?_) (fun c_7 => ?_)
        · rw [if_neg c_7] at h
          refine lv_iconst (v := 0) hx hb dX12_steps_210 (by decide) ?_
          exact b_X12_steps_211 l S hr hlk hK N q tq σ_3 τ_3 x2 x3 x4 v_5 0 h hw (lv_sub hl [1, 2, 3, 4, 5, 0] rfl)
        · rw [if_pos c_7] at h
          refine lv_iconst (v := 1) hx hb dX12_steps_206 (by decide) ?_
          refine lv_goto (tgt := 211) hx hb dX12_steps_207 (by decide) ?_
          exact b_X12_steps_211 l S hr hlk hK N q tq σ_3 τ_3 x2 x3 x4 v_5 1 h hw (lv_sub hl [1, 2, 3, 4, 5, 0] rfl)
set_option maxHeartbeats 4000000 in
set_option maxRecDepth 100000 in
theorem b_X12_steps_94 (l : Launch) (S : CallFix P9 m9 C9 cX12_steps 6 s av.toArray gx_G RX12) (hr : meth.sig.returnType = (some .boolean)) (hlk : meth.locks = false) (hK : gx_K E s) (N : Nat) (q : Nat) (tq : gx_tb[q]? = some (.inr (0, 45, []))) (σ : gI) (τ : gJ) (x2 : Int32) (x3 : Int32) (x4 : Int32) {r : Int32} {σ1 : gI} {τ1 : gJ} (h : B_X12_steps_94 N q σ τ x2 x3 x4 = some (r, σ1, τ1)) {H : Heap} {locs : List Loc} {ls : Array Slot} (hw : gx_W gx_tb gx_tb.length E s σ τ H locs) (hl : lv_has ls 6 [(0, .ref (E.2.2 + 199)), (1, .ref (E.2.2 + q)), (2, .int x2), (3, .int x3), (4, .int x4)]) : W P9 l e9 (gx_rm 4) s m9 av.toArray below meth C9 H locs 0 0 (gq_Qi below av s E r σ1 τ1) (F0 m9 94 ls []) := by
  have hx := S.1
  have hb := S.2.1
  unfold B_X12_steps_94 at h
  refine lv_aload_n hx hb dX12_steps_94 rfl (lv_at hl 0 rfl) ?_
  refine gx_getr (j := 201) S hK hw t_199 cl_13 5 (by decide) rfl mw_1419 rfl dX12_steps_95 ?_
  refine lv_iload hx hb dX12_steps_98 (lv_at hl 4 rfl) ?_
  obtain ⟨j_1, hj_1, hi_1, h⟩ := ck_some h
  refine gx_iald S hK hw t_201 j_1 hj_1 hi_1 dX12_steps_100 ?_
  refine lv_iconst (v := 4) hx hb dX12_steps_101 (by decide) ?_
  refine lv_icmp_ne (tgt := 150) hx hb dX12_steps_102 (by decide) (fun c_2 => ?_) (fun c_2 => ?_)
  · rw [if_neg c_2] at h
    exact b_X12_steps_150 l S hr hlk hK N q tq σ τ x2 x3 x4 h hw (lv_sub hl [0, 1, 2, 3, 4] rfl)
  · rw [if_pos c_2] at h
    refine lv_aload_n hx hb dX12_steps_105 rfl (lv_at hl 1 rfl) ?_
    refine lv_bipush (v := 43) hx hb dX12_steps_106 (by decide) ?_
    refine gx_iald S hK hw tq 43 rfl (gx_in rfl (by decide) (by decide)) dX12_steps_108 ?_
    refine lv_bipush (v := 10) hx hb dX12_steps_109 (by decide) ?_
    refine lv_irem hx hb dX12_steps_111 (by decide) ?_
    refine lv_i2l (v := ((σ q 43) - (σ q 43) / 10 * 10).toInt64) hx hb dX12_steps_112 rfl ?_
    refine lv_aload_n hx hb dX12_steps_113 rfl (lv_at hl 0 rfl) ?_
    refine gx_getr (j := 204) S hK hw t_199 cl_13 8 (by decide) rfl mw_1422 rfl dX12_steps_114 ?_
    refine lv_iload hx hb dX12_steps_117 (lv_at hl 4 rfl) ?_
    refine gx_iald S hK hw t_204 j_1 hj_1 hi_1 dX12_steps_119 ?_
    refine lv_bipush (v := 10) hx hb dX12_steps_120 (by decide) ?_
    refine lv_idiv hx hb dX12_steps_122 (by decide) ?_
    refine lv_i2l (v := ((σ 204 j_1) / 10).toInt64) hx hb dX12_steps_123 rfl ?_
    refine lv_aload_n hx hb dX12_steps_124 rfl (lv_at hl 0 rfl) ?_
    refine gx_getr (j := 204) S hK hw t_199 cl_13 8 (by decide) rfl mw_1422 rfl dX12_steps_125 ?_
    refine lv_iload hx hb dX12_steps_128 (lv_at hl 4 rfl) ?_
    refine gx_iald S hK hw t_204 j_1 hj_1 hi_1 dX12_steps_130 ?_
    refine lv_bipush (v := 10) hx hb dX12_steps_131 (by decide) ?_
    refine lv_irem hx hb dX12_steps_133 (by decide) ?_
    refine lv_i2l (v := ((σ 204 j_1) - (σ 204 j_1) / 10 * 10).toInt64) hx hb dX12_steps_134 rfl ?_
    obtain ⟨r_3, σ_3, τ_3, q_3, h⟩ := bd_some h
    refine gx_cSi (As := [.long (((σ q 43) - (σ q 43) / 10 * 10).toInt64), .long (((σ 204 j_1) / 10).toInt64), .long (((σ 204 j_1) - (σ 204 j_1) / 10 * 10).toInt64)]) (rest := []) S hK gx_ok hw (c_X12_in l (E := E) N σ τ (((σ q 43) - (σ q 43) / 10 * 10).toInt64) (((σ 204 j_1) / 10).toInt64) (((σ 204 j_1) - (σ 204 j_1) / 10 * 10).toInt64) q_3) cw_X12_129 ⟨Nat.le_of_ble_eq_true rfl, Nat.le_of_ble_eq_true rfl⟩ rfl hl.1 rfl (Nat.le_of_ble_eq_true rfl) ⟨Nat.le_of_ble_eq_true rfl, Nat.le_of_ble_eq_true rfl⟩ dX12_steps_135 (fun r9 σ9 τ9 H locs hp hw => ?_)
    obtain ⟨rfl, rfl, rfl⟩ := hp
    refine lv_if_eq (tgt := 150) hx hb dX12_steps_138 (by decide) (fun c_4 => ?_) (fun c_4 => ?_)
    · rw [if_pos c_4] at h
      exact b_X12_steps_150 l S hr hlk hK N q tq σ_3 τ_3 x2 x3 x4 h hw (lv_sub hl [0, 1, 2, 3, 4] rfl)
    · rw [if_neg c_4] at h
      refine lv_aload_n hx hb dX12_steps_141 rfl (lv_at hl 0 rfl) ?_
      refine lv_aload_n hx hb dX12_steps_142 rfl (lv_at hl 1 rfl) ?_
      refine lv_iload_n hx hb dX12_steps_143 rfl (lv_at hl 2 rfl) ?_
      refine lv_iconst (v := 2) hx hb dX12_steps_144 (by decide) ?_
      obtain ⟨u_5, σ_5, τ_5, q_5, h⟩ := bd_some h
      refine gx_cVv (As := [.ref (E.2.2 + q), .int x2, .int 2]) (rest := []) S hK gx_ok hw (c_X12_ends l (E := E) N q tq σ_3 τ_3 x2 2 q_5) cw_X12_287 t_199 cl_13 ⟨Nat.le_of_ble_eq_true rfl, Nat.le_of_ble_eq_true rfl⟩ rfl hl.1 rfl (Nat.le_of_ble_eq_true rfl) ⟨Nat.le_of_ble_eq_true rfl, Nat.le_of_ble_eq_true rfl⟩ dX12_steps_145 (fun σ9 τ9 H locs hp hw => ?_)
      obtain ⟨rfl, rfl⟩ := hp
      refine lv_iconst (v := 0) hx hb dX12_steps_148 (by decide) ?_
      obtain ⟨rfl, rfl, rfl⟩ := sm_inj h
      exact gx_ri (post := gq_p 0 σ_5 τ_5) (v := 0) S hr hlk hw rfl dX12_steps_149 ⟨rfl, rfl, rfl⟩
set_option maxHeartbeats 4000000 in
set_option maxRecDepth 100000 in
theorem b_X12_steps_40 (l : Launch) (S : CallFix P9 m9 C9 cX12_steps 6 s av.toArray gx_G RX12) (hr : meth.sig.returnType = (some .boolean)) (hlk : meth.locks = false) (hK : gx_K E s) (N : Nat) (q : Nat) (tq : gx_tb[q]? = some (.inr (0, 45, []))) (σ : gI) (τ : gJ) (x2 : Int32) (x3 : Int32) (x4 : Int32) {r : Int32} {σ1 : gI} {τ1 : gJ} (h : B_X12_steps_40 N q σ τ x2 x3 x4 = some (r, σ1, τ1)) {H : Heap} {locs : List Loc} {ls : Array Slot} (hw : gx_W gx_tb gx_tb.length E s σ τ H locs) (hl : lv_has ls 6 [(0, .ref (E.2.2 + 199)), (1, .ref (E.2.2 + q)), (2, .int x2), (3, .int x3), (4, .int x4)]) : W P9 l e9 (gx_rm 4) s m9 av.toArray below meth C9 H locs 0 0 (gq_Qi below av s E r σ1 τ1) (F0 m9 40 ls []) := by
  have hx := S.1
  have hb := S.2.1
  unfold B_X12_steps_40 at h
  refine lv_aload_n hx hb dX12_steps_40 rfl (lv_at hl 0 rfl) ?_
  refine gx_getr (j := 201) S hK hw t_199 cl_13 5 (by decide) rfl mw_1419 rfl dX12_steps_41 ?_
  refine lv_iload hx hb dX12_steps_44 (lv_at hl 4 rfl) ?_
  obtain ⟨j_1, hj_1, hi_1, h⟩ := ck_some h
  refine gx_iald S hK hw t_201 j_1 hj_1 hi_1 dX12_steps_46 ?_
  refine lv_iconst (v := 3) hx hb dX12_steps_47 (by decide) ?_
  refine lv_icmp_ne (tgt := 94) hx hb dX12_steps_48 (by decide) (fun c_2 => ?_) (fun c_2 => ?_)
  · rw [if_neg c_2] at h
    exact b_X12_steps_94 l S hr hlk hK N q tq σ τ x2 x3 x4 h hw (lv_sub hl [0, 1, 2, 3, 4] rfl)
  · rw [if_pos c_2] at h
    refine lv_aload_n hx hb dX12_steps_51 rfl (lv_at hl 1 rfl) ?_
    refine lv_iload_n hx hb dX12_steps_52 rfl (lv_at hl 3 rfl) ?_
    refine lv_iconst (v := 2) hx hb dX12_steps_53 (by decide) ?_
    refine lv_iadd hx hb dX12_steps_54 ?_
    obtain ⟨j_3, hj_3, hi_3, h⟩ := ck_some h
    refine gx_iald S hK hw tq j_3 hj_3 hi_3 dX12_steps_55 ?_
    refine lv_aload_n hx hb dX12_steps_56 rfl (lv_at hl 0 rfl) ?_
    refine gx_getr (j := 204) S hK hw t_199 cl_13 8 (by decide) rfl mw_1422 rfl dX12_steps_57 ?_
    refine lv_iload hx hb dX12_steps_60 (lv_at hl 4 rfl) ?_
    refine gx_iald S hK hw t_204 j_1 hj_1 hi_1 dX12_steps_62 ?_
    refine lv_icmp_ge (tgt := 68) hx hb dX12_steps_63 (by decide) (fun c_4 => ?_) (fun c_4 => ?_)
    · rw [if_pos c_4] at h
      refine lv_aload_n hx hb dX12_steps_68 rfl (lv_at hl 1 rfl) ?_
      refine lv_iload_n hx hb dX12_steps_69 rfl (lv_at hl 3 rfl) ?_
      refine lv_iconst (v := 2) hx hb dX12_steps_70 (by decide) ?_
      refine lv_iadd hx hb dX12_steps_71 ?_
      refine lv_dup2_11 hx hb dX12_steps_72 rfl rfl ?_
      refine gx_iald S hK hw tq j_3 hj_3 hi_3 dX12_steps_73 ?_
      refine lv_aload_n hx hb dX12_steps_74 rfl (lv_at hl 0 rfl) ?_
      refine gx_get S hK hw t_199 cl_13 33 (by decide) rfl mw_1447 rfl dX12_steps_75 ?_
      refine lv_if_eq (tgt := 85) hx hb dX12_steps_78 (by decide) (fun c_5 => ?_) (fun c_5 => ?_)
      · rw [if_pos c_5] at h
        refine lv_aload_n hx hb dX12_steps_85 rfl (lv_at hl 0 rfl) ?_
        refine gx_getr (j := 204) S hK hw t_199 cl_13 8 (by decide) rfl mw_1422 rfl dX12_steps_86 ?_
        refine lv_iload hx hb dX12_steps_89 (lv_at hl 4 rfl) ?_
        refine gx_iald S hK hw t_204 j_1 hj_1 hi_1 dX12_steps_91 ?_
        refine lv_isub hx hb dX12_steps_92 ?_
        refine gx_iast S hK gx_ok hw tq j_3 hj_3 hi_3 dX12_steps_93 (fun H locs hw => ?_)
        obtain ⟨σ_6, e_6, h⟩ := nm_some h
        rw [← e_6] at hw
        exact b_X12_steps_94 l S hr hlk hK N q tq σ_6 τ x2 x3 x4 h hw (lv_sub hl [0, 1, 2, 3, 4] rfl)
      · rw [if_neg c_5] at h
        refine lv_iconst (v := 0) hx hb dX12_steps_81 (by decide) ?_
        refine lv_goto (tgt := 92) hx hb dX12_steps_82 (by decide) ?_
        refine lv_isub hx hb dX12_steps_92 ?_
        refine gx_iast S hK gx_ok hw tq j_3 hj_3 hi_3 dX12_steps_93 (fun H locs hw => ?_)
        obtain ⟨σ_7, e_7, h⟩ := nm_some h
        rw [← e_7] at hw
        exact b_X12_steps_94 l S hr hlk hK N q tq σ_7 τ x2 x3 x4 h hw (lv_sub hl [0, 1, 2, 3, 4] rfl)
    · rw [if_neg c_4] at h
      refine lv_iconst (v := 0) hx hb dX12_steps_66 (by decide) ?_
      obtain ⟨rfl, rfl, rfl⟩ := sm_inj h
      exact gx_ri (post := gq_p 0 σ τ) (v := 0) S hr hlk hw rfl dX12_steps_67 ⟨rfl, rfl, rfl⟩
set_option maxHeartbeats 4000000 in
set_option maxRecDepth 100000 in
theorem b_X12_steps_0 (l : Launch) (S : CallFix P9 m9 C9 cX12_steps 6 s av.toArray gx_G RX12) (hr : meth.sig.returnType = (some .boolean)) (hlk : meth.locks = false) (hK : gx_K E s) (N : Nat) (q : Nat) (tq : gx_tb[q]? = some (.inr (0, 45, []))) (σ : gI) (τ : gJ) (x2 : Int32) {r : Int32} {σ1 : gI} {τ1 : gJ} (h : B_X12_steps_0 N q σ τ x2 = some (r, σ1, τ1)) {H : Heap} {locs : List Loc} {ls : Array Slot} (hw : gx_W gx_tb gx_tb.length E s σ τ H locs) (hl : lv_has ls 6 [(0, .ref (E.2.2 + 199)), (1, .ref (E.2.2 + q)), (2, .int x2)]) : W P9 l e9 (gx_rm 4) s m9 av.toArray below meth C9 H locs 0 0 (gq_Qi below av s E r σ1 τ1) (F0 m9 0 ls []) := by
  have hx := S.1
  have hb := S.2.1
  unfold B_X12_steps_0 at h
  refine lv_bipush (v := 7) hx hb dX12_steps_0 (by decide) ?_
  refine lv_iload_n hx hb dX12_steps_2 rfl (lv_at hl 2 rfl) ?_
  refine lv_imul hx hb dX12_steps_3 ?_
  refine lv_istore_n (lv' := [(3, .int (7 * x2)), (0, .ref (E.2.2 + 199)), (1, .ref (E.2.2 + q)), (2, .int x2)]) hx hb dX12_steps_4 rfl hl (by decide) rfl (fun ls hl => ?_)
  obtain ⟨v_1, e_1, h⟩ := nm_some h
  have hl : lv_has ls 6 [(3, .int v_1), (0, .ref (E.2.2 + 199)), (1, .ref (E.2.2 + q)), (2, .int x2)] := by rw [e_1]; exact hl
  refine lv_aload_n hx hb dX12_steps_5 rfl (lv_at hl 2 rfl) ?_
  refine lv_iload_n hx hb dX12_steps_6 rfl (lv_at hl 0 rfl) ?_
  refine lv_iconst (v := 0) hx hb dX12_steps_7 (by decide) ?_
  refine lv_iadd hx hb dX12_steps_8 ?_
  obtain ⟨j_2, hj_2, hi_2, h⟩ := ck_some h
  refine gx_iald S hK hw tq j_2 hj_2 hi_2 dX12_steps_9 ?_
  refine lv_istore (lv' := [(4, .int (σ q j_2)), (3, .int v_1), (0, .ref (E.2.2 + 199)), (1, .ref (E.2.2 + q)), (2, .int x2)]) hx hb dX12_steps_10 hl (by decide) rfl (fun ls hl => ?_)
  obtain ⟨v_3, e_3, h⟩ := nm_some h
  have hl : lv_has ls 6 [(4, .int v_3), (3, .int v_1), (0, .ref (E.2.2 + 199)), (1, .ref (E.2.2 + q)), (2, .int x2)] := by rw [e_3]; exact hl
  refine lv_aload_n hx hb dX12_steps_12 rfl (lv_at hl 2 rfl) ?_
  refine gx_getr (j := 201) S hK hw t_199 cl_13 5 (by decide) rfl mw_1419 rfl dX12_steps_13 ?_
  refine lv_iload hx hb dX12_steps_16 (lv_at hl 0 rfl) ?_
  obtain ⟨j_4, hj_4, hi_4, h⟩ := ck_some h
  refine gx_iald S hK hw t_201 j_4 hj_4 hi_4 dX12_steps_18 ?_
  refine lv_iconst (v := 5) hx hb dX12_steps_19 (by decide) ?_
  refine lv_icmp_ne (tgt := 40) hx hb dX12_steps_20 (by decide) (fun c_5 => ?_) (fun c_5 => ?_)
  · rw [if_neg c_5] at h
    exact b_X12_steps_40 l S hr hlk hK N q tq σ τ x2 v_1 v_3 h hw (lv_sub hl [2, 3, 4, 1, 0] rfl)
  · rw [if_pos c_5] at h
    refine lv_aload_n hx hb dX12_steps_23 rfl (lv_at hl 3 rfl) ?_
    refine lv_bipush (v := 43) hx hb dX12_steps_24 (by decide) ?_
    refine gx_iald S hK hw tq 43 rfl (gx_in rfl (by decide) (by decide)) dX12_steps_26 ?_
    refine lv_aload_n hx hb dX12_steps_27 rfl (lv_at hl 2 rfl) ?_
    refine gx_getr (j := 204) S hK hw t_199 cl_13 8 (by decide) rfl mw_1422 rfl dX12_steps_28 ?_
    refine lv_iload hx hb dX12_steps_31 (lv_at hl 0 rfl) ?_
    refine gx_iald S hK hw t_204 j_4 hj_4 hi_4 dX12_steps_33 ?_
    obtain ⟨hz_6, h⟩ := dz_some h
    refine lv_irem hx hb dX12_steps_34 hz_6 ?_
    refine lv_if_eq (tgt := 40) hx hb dX12_steps_35 (by decide) (fun c_7 => ?_) (fun c_7 => ?_)
    · rw [if_pos c_7] at h
      exact b_X12_steps_40 l S hr hlk hK N q tq σ τ x2 v_1 v_3 h hw (lv_sub hl [2, 3, 4, 1, 0] rfl)
    · rw [if_neg c_7] at h
      refine lv_iconst (v := 0) hx hb dX12_steps_38 (by decide) ?_
      obtain ⟨rfl, rfl, rfl⟩ := sm_inj h
      exact gx_ri (post := gq_p 0 σ τ) (v := 0) S hr hlk hw rfl dX12_steps_39 ⟨rfl, rfl, rfl⟩
set_option maxHeartbeats 4000000 in
set_option maxRecDepth 100000 in
theorem c_X12_steps (l : Launch) {E : gE} (N : Nat) (q : Nat) (tq : gx_tb[q]? = some (.inr (0, 45, []))) (σ : gI) (τ : gJ) (x2 : Int32) {r : Int32} {σ1 : gI} {τ1 : gJ} (h : B_X12_steps_0 N q σ τ x2 = some (r, σ1, τ1)) : gx_Mi l yX12_steps cX12_steps 6 (some .boolean) 4 gx_tb E σ τ [.ref (E.2.2 + 199), .ref (E.2.2 + q), .int x2] (gq_p r σ1 τ1) := by
  refine gx_bi (by decide +kernel) (Nat.le_of_ble_eq_true rfl) ?_
  intro P9 e9 s m9 below meth C9 S hr hlk hK hw ls hl
  have hl : lv_has ls 6 [(0, .ref (E.2.2 + 199)), (1, .ref (E.2.2 + q)), (2, .int x2)] := hl
  exact b_X12_steps_0 l S hr hlk hK N q tq σ τ x2 h hw hl
/-! X12_minuteGoes -/
def C_X12_minuteGoes_55 (N : Nat) (q : Nat) (rec_11 : gI → gJ → Int32 → Int32 → Option (Unit × gI × gJ)) (rec_55 : gI → gJ → Int32 → Int32 → Int32 → Int32 → Option (Unit × gI × gJ)) (σ : gI) (τ : gJ) (x2 : Int32) (x3 : Int32) (x4 : Int32) (x5 : Int32) : Option (Unit × gI × gJ) := if x2 ≤ x5 then (nm (x3 + 1) fun v_2 => rec_11 σ τ x2 v_2) else (if x4 = 0 then (nm (x3 + 1) fun v_4 => rec_11 σ τ x2 v_4) else (bd (B_X12_steps_0 N q σ τ x3) fun r_5 σ_5 τ_5 => nm (x5 + 1) fun v_6 => rec_55 σ_5 τ_5 x2 x3 r_5 v_6))
def H_X12_minuteGoes_55 (N : Nat) (q : Nat) (rec_11 : gI → gJ → Int32 → Int32 → Option (Unit × gI × gJ)) : Nat → gI → gJ → Int32 → Int32 → Int32 → Int32 → Option (Unit × gI × gJ) := itn (fun rec_55 => C_X12_minuteGoes_55 N q rec_11 rec_55) (fun _ _ _ _ _ _ => none)
def C_X12_minuteGoes_11 (N : Nat) (q : Nat) (rec_11 : gI → gJ → Int32 → Int32 → Option (Unit × gI × gJ)) (σ : gI) (τ : gJ) (x2 : Int32) (x3 : Int32) : Option (Unit × gI × gJ) := if σ q 44 ≤ x3 then (nm (up2 σ q 43 ((σ q 43) + 1)) fun σ_2 => some ((), σ_2, τ)) else (ck ((7 * x3) + 4) 45 fun j_3 => if σ q j_3 = 0 then (ck ((7 * x3) + 5) 45 fun j_5 => if σ q 43 < σ q j_5 then (H_X12_minuteGoes_55 N q rec_11 N σ τ x2 x3 0 0) else (H_X12_minuteGoes_55 N q rec_11 N σ τ x2 x3 1 0)) else (H_X12_minuteGoes_55 N q rec_11 N σ τ x2 x3 0 0))
def H_X12_minuteGoes_11 (N : Nat) (q : Nat) : Nat → gI → gJ → Int32 → Int32 → Option (Unit × gI × gJ) := itn (fun rec_11 => C_X12_minuteGoes_11 N q rec_11) (fun _ _ _ _ => none)
def B_X12_minuteGoes_0 (N : Nat) (q : Nat) (σ : gI) (τ : gJ) : Option (Unit × gI × gJ) := bd (B_X12_waterIn_0 N σ τ (σ q 43)) fun r_1 σ_1 τ_1 => H_X12_minuteGoes_11 N q N σ_1 τ_1 r_1 0
set_option maxHeartbeats 4000000 in
set_option maxRecDepth 100000 in
theorem k_X12_minuteGoes_55 (l : Launch) (S : CallFix P9 m9 C9 cX12_minuteGoes 6 s av.toArray gx_G RX12) (hr : meth.sig.returnType = none) (hlk : meth.locks = false) (hK : gx_K E s) (N : Nat) (q : Nat) (tq : gx_tb[q]? = some (.inr (0, 45, []))) (rec_11 : gI → gJ → Int32 → Int32 → Option (Unit × gI × gJ)) (hrec_11 : ∀ (σ : gI) (τ : gJ) (x2 : Int32) (x3 : Int32) (r : Unit) (σ1 : gI) (τ1 : gJ) (H : Heap) (locs : List Loc) (ls : Array Slot), rec_11 σ τ x2 x3 = some (r, σ1, τ1) → gx_W gx_tb gx_tb.length E s σ τ H locs → lv_has ls 6 [(0, .ref (E.2.2 + 199)), (1, .ref (E.2.2 + q)), (2, .int x2), (3, .int x3)] → W P9 l e9 (gx_rm 5) s m9 av.toArray below meth C9 H locs 0 0 (gq_Qv below av s E σ1 τ1) (F0 m9 11 ls [])) (rec_55 : gI → gJ → Int32 → Int32 → Int32 → Int32 → Option (Unit × gI × gJ)) (hrec_55 : ∀ (σ : gI) (τ : gJ) (x2 : Int32) (x3 : Int32) (x4 : Int32) (x5 : Int32) (r : Unit) (σ1 : gI) (τ1 : gJ) (H : Heap) (locs : List Loc) (ls : Array Slot), rec_55 σ τ x2 x3 x4 x5 = some (r, σ1, τ1) → gx_W gx_tb gx_tb.length E s σ τ H locs → lv_has ls 6 [(0, .ref (E.2.2 + 199)), (1, .ref (E.2.2 + q)), (2, .int x2), (3, .int x3), (4, .int x4), (5, .int x5)] → W P9 l e9 (gx_rm 5) s m9 av.toArray below meth C9 H locs 0 0 (gq_Qv below av s E σ1 τ1) (F0 m9 55 ls [])) (σ : gI) (τ : gJ) (x2 : Int32) (x3 : Int32) (x4 : Int32) (x5 : Int32) {r : Unit} {σ1 : gI} {τ1 : gJ} (h : C_X12_minuteGoes_55 N q rec_11 rec_55 σ τ x2 x3 x4 x5 = some (r, σ1, τ1)) {H : Heap} {locs : List Loc} {ls : Array Slot} (hw : gx_W gx_tb gx_tb.length E s σ τ H locs) (hl : lv_has ls 6 [(0, .ref (E.2.2 + 199)), (1, .ref (E.2.2 + q)), (2, .int x2), (3, .int x3), (4, .int x4), (5, .int x5)]) : W P9 l e9 (gx_rm 5) s m9 av.toArray below meth C9 H locs 0 0 (gq_Qv below av s E σ1 τ1) (F0 m9 55 ls []) := by
  have hx := S.1
  have hb := S.2.1
  unfold C_X12_minuteGoes_55 at h
  refine lv_iload hx hb dX12_minuteGoes_55 (lv_at hl 5 rfl) ?_
  refine lv_iload_n hx hb dX12_minuteGoes_57 rfl (lv_at hl 2 rfl) ?_
  refine lv_icmp_ge (tgt := 80) hx hb dX12_minuteGoes_58 (by decide) (fun c_1 => ?_) (fun c_1 => ?_)
  · rw [if_pos c_1] at h
    refine lv_iinc (v := x3 + 1) (lv' := [(3, .int (x3 + 1)), (0, .ref (E.2.2 + 199)), (1, .ref (E.2.2 + q)), (2, .int x2), (4, .int x4), (5, .int x5)]) hx hb dX12_minuteGoes_80 hl (k := 3) rfl rfl (by decide) rfl (fun ls hl => ?_)
    obtain ⟨v_2, e_2, h⟩ := nm_some h
    have hl : lv_has ls 6 [(3, .int v_2), (0, .ref (E.2.2 + 199)), (1, .ref (E.2.2 + q)), (2, .int x2), (4, .int x4), (5, .int x5)] := by rw [e_2]; exact hl
    refine lv_goto (tgt := 11) hx hb dX12_minuteGoes_83 (by decide) ?_
    exact hrec_11 σ τ x2 v_2 _ _ _ _ _ _ h hw (lv_sub hl [1, 2, 3, 0] rfl)
  · rw [if_neg c_1] at h
    refine lv_iload hx hb dX12_minuteGoes_61 (lv_at hl 4 rfl) ?_
    refine lv_if_eq (tgt := 80) hx hb dX12_minuteGoes_63 (by decide) (fun c_3 => ?_) (fun c_3 => ?_)
    · rw [if_pos c_3] at h
      refine lv_iinc (v := x3 + 1) (lv' := [(3, .int (x3 + 1)), (0, .ref (E.2.2 + 199)), (1, .ref (E.2.2 + q)), (2, .int x2), (4, .int x4), (5, .int x5)]) hx hb dX12_minuteGoes_80 hl (k := 3) rfl rfl (by decide) rfl (fun ls hl => ?_)
      obtain ⟨v_4, e_4, h⟩ := nm_some h
      have hl : lv_has ls 6 [(3, .int v_4), (0, .ref (E.2.2 + 199)), (1, .ref (E.2.2 + q)), (2, .int x2), (4, .int x4), (5, .int x5)] := by rw [e_4]; exact hl
      refine lv_goto (tgt := 11) hx hb dX12_minuteGoes_83 (by decide) ?_
      exact hrec_11 σ τ x2 v_4 _ _ _ _ _ _ h hw (lv_sub hl [1, 2, 3, 0] rfl)
    · rw [if_neg c_3] at h
      refine lv_aload_n hx hb dX12_minuteGoes_66 rfl (lv_at hl 0 rfl) ?_
      refine lv_aload_n hx hb dX12_minuteGoes_67 rfl (lv_at hl 1 rfl) ?_
      refine lv_iload_n hx hb dX12_minuteGoes_68 rfl (lv_at hl 3 rfl) ?_
      obtain ⟨r_5, σ_5, τ_5, q_5, h⟩ := bd_some h
      refine gx_cVi (As := [.ref (E.2.2 + q), .int x3]) (rest := []) S hK gx_ok hw (c_X12_steps l (E := E) N q tq σ τ x3 q_5) cw_X12_300 t_199 cl_13 ⟨Nat.le_of_ble_eq_true rfl, Nat.le_of_ble_eq_true rfl⟩ rfl hl.1 rfl (Nat.le_of_ble_eq_true rfl) ⟨Nat.le_of_ble_eq_true rfl, Nat.le_of_ble_eq_true rfl⟩ dX12_minuteGoes_69 (fun r9 σ9 τ9 H locs hp hw => ?_)
      obtain ⟨rfl, rfl, rfl⟩ := hp
      refine lv_istore (lv' := [(4, .int r_5), (0, .ref (E.2.2 + 199)), (1, .ref (E.2.2 + q)), (2, .int x2), (3, .int x3), (5, .int x5)]) hx hb dX12_minuteGoes_72 hl (by decide) rfl (fun ls hl => ?_)
      refine lv_iinc (v := x5 + 1) (lv' := [(5, .int (x5 + 1)), (4, .int r_5), (0, .ref (E.2.2 + 199)), (1, .ref (E.2.2 + q)), (2, .int x2), (3, .int x3)]) hx hb dX12_minuteGoes_74 hl (k := 5) rfl rfl (by decide) rfl (fun ls hl => ?_)
      obtain ⟨v_6, e_6, h⟩ := nm_some h
      have hl : lv_has ls 6 [(5, .int v_6), (4, .int r_5), (0, .ref (E.2.2 + 199)), (1, .ref (E.2.2 + q)), (2, .int x2), (3, .int x3)] := by rw [e_6]; exact hl
      refine lv_goto (tgt := 55) hx hb dX12_minuteGoes_77 (by decide) ?_
      exact hrec_55 σ_5 τ_5 x2 x3 r_5 v_6 _ _ _ _ _ _ h hw (lv_sub hl [2, 3, 4, 5, 1, 0] rfl)
set_option maxHeartbeats 4000000 in
set_option maxRecDepth 100000 in
theorem h_X12_minuteGoes_55 (l : Launch) (S : CallFix P9 m9 C9 cX12_minuteGoes 6 s av.toArray gx_G RX12) (hr : meth.sig.returnType = none) (hlk : meth.locks = false) (hK : gx_K E s) (N : Nat) (q : Nat) (tq : gx_tb[q]? = some (.inr (0, 45, []))) (rec_11 : gI → gJ → Int32 → Int32 → Option (Unit × gI × gJ)) (hrec_11 : ∀ (σ : gI) (τ : gJ) (x2 : Int32) (x3 : Int32) (r : Unit) (σ1 : gI) (τ1 : gJ) (H : Heap) (locs : List Loc) (ls : Array Slot), rec_11 σ τ x2 x3 = some (r, σ1, τ1) → gx_W gx_tb gx_tb.length E s σ τ H locs → lv_has ls 6 [(0, .ref (E.2.2 + 199)), (1, .ref (E.2.2 + q)), (2, .int x2), (3, .int x3)] → W P9 l e9 (gx_rm 5) s m9 av.toArray below meth C9 H locs 0 0 (gq_Qv below av s E σ1 τ1) (F0 m9 11 ls [])) : ∀ (n : Nat) (σ : gI) (τ : gJ) (x2 : Int32) (x3 : Int32) (x4 : Int32) (x5 : Int32) (r : Unit) (σ1 : gI) (τ1 : gJ), H_X12_minuteGoes_55 N q rec_11 n σ τ x2 x3 x4 x5 = some (r, σ1, τ1) → ∀ (H : Heap) (locs : List Loc) (ls : Array Slot), gx_W gx_tb gx_tb.length E s σ τ H locs → lv_has ls 6 [(0, .ref (E.2.2 + 199)), (1, .ref (E.2.2 + q)), (2, .int x2), (3, .int x3), (4, .int x4), (5, .int x5)] → W P9 l e9 (gx_rm 5) s m9 av.toArray below meth C9 H locs 0 0 (gq_Qv below av s E σ1 τ1) (F0 m9 55 ls []) := by
  intro n
  induction n with
  | zero => intro σ τ x2 x3 x4 x5 r σ1 τ1 h; cases h
  | succ n ih =>
    intro σ τ x2 x3 x4 x5 r σ1 τ1 h H locs ls hw hl
    exact k_X12_minuteGoes_55 l S hr hlk hK N q tq rec_11 hrec_11 (H_X12_minuteGoes_55 N q rec_11 n) (fun σ τ x2 x3 x4 x5 r σ1 τ1 H locs ls h hw hl => ih σ τ x2 x3 x4 x5 r σ1 τ1 h H locs ls hw hl) σ τ x2 x3 x4 x5 h hw hl
set_option maxHeartbeats 4000000 in
set_option maxRecDepth 100000 in
theorem k_X12_minuteGoes_11 (l : Launch) (S : CallFix P9 m9 C9 cX12_minuteGoes 6 s av.toArray gx_G RX12) (hr : meth.sig.returnType = none) (hlk : meth.locks = false) (hK : gx_K E s) (N : Nat) (q : Nat) (tq : gx_tb[q]? = some (.inr (0, 45, []))) (rec_11 : gI → gJ → Int32 → Int32 → Option (Unit × gI × gJ)) (hrec_11 : ∀ (σ : gI) (τ : gJ) (x2 : Int32) (x3 : Int32) (r : Unit) (σ1 : gI) (τ1 : gJ) (H : Heap) (locs : List Loc) (ls : Array Slot), rec_11 σ τ x2 x3 = some (r, σ1, τ1) → gx_W gx_tb gx_tb.length E s σ τ H locs → lv_has ls 6 [(0, .ref (E.2.2 + 199)), (1, .ref (E.2.2 + q)), (2, .int x2), (3, .int x3)] → W P9 l e9 (gx_rm 5) s m9 av.toArray below meth C9 H locs 0 0 (gq_Qv below av s E σ1 τ1) (F0 m9 11 ls [])) (σ : gI) (τ : gJ) (x2 : Int32) (x3 : Int32) {r : Unit} {σ1 : gI} {τ1 : gJ} (h : C_X12_minuteGoes_11 N q rec_11 σ τ x2 x3 = some (r, σ1, τ1)) {H : Heap} {locs : List Loc} {ls : Array Slot} (hw : gx_W gx_tb gx_tb.length E s σ τ H locs) (hl : lv_has ls 6 [(0, .ref (E.2.2 + 199)), (1, .ref (E.2.2 + q)), (2, .int x2), (3, .int x3)]) : W P9 l e9 (gx_rm 5) s m9 av.toArray below meth C9 H locs 0 0 (gq_Qv below av s E σ1 τ1) (F0 m9 11 ls []) := by
  have hx := S.1
  have hb := S.2.1
  unfold C_X12_minuteGoes_11 at h
  refine lv_iload_n hx hb dX12_minuteGoes_11 rfl (lv_at hl 3 rfl) ?_
  refine lv_aload_n hx hb dX12_minuteGoes_12 rfl (lv_at hl 1 rfl) ?_
  refine lv_bipush (v := 44) hx hb dX12_minuteGoes_13 (by decide) ?_
  refine gx_iald S hK hw tq 44 rfl (gx_in rfl (by decide) (by decide)) dX12_minuteGoes_15 ?_
  refine lv_icmp_ge (tgt := 86) hx hb dX12_minuteGoes_16 (by decide) (fun c_1 => ?_) (fun c_1 => ?_)
  · rw [if_pos c_1] at h
    refine lv_aload_n hx hb dX12_minuteGoes_86 rfl (lv_at hl 1 rfl) ?_
    refine lv_bipush (v := 43) hx hb dX12_minuteGoes_87 (by decide) ?_
    refine lv_dup2_11 hx hb dX12_minuteGoes_89 rfl rfl ?_
    refine gx_iald S hK hw tq 43 rfl (gx_in rfl (by decide) (by decide)) dX12_minuteGoes_90 ?_
    refine lv_iconst (v := 1) hx hb dX12_minuteGoes_91 (by decide) ?_
    refine lv_iadd hx hb dX12_minuteGoes_92 ?_
    refine gx_iast S hK gx_ok hw tq 43 rfl (gx_in rfl (by decide) (by decide)) dX12_minuteGoes_93 (fun H locs hw => ?_)
    obtain ⟨σ_2, e_2, h⟩ := nm_some h
    rw [← e_2] at hw
    obtain ⟨-, rfl, rfl⟩ := sm_inj h
    exact gx_rv (post := gq_v σ_2 τ) S hr hlk hw dX12_minuteGoes_94 ⟨rfl, rfl⟩
  · rw [if_neg c_1] at h
    refine lv_aload_n hx hb dX12_minuteGoes_19 rfl (lv_at hl 1 rfl) ?_
    refine lv_bipush (v := 7) hx hb dX12_minuteGoes_20 (by decide) ?_
    refine lv_iload_n hx hb dX12_minuteGoes_22 rfl (lv_at hl 3 rfl) ?_
    refine lv_imul hx hb dX12_minuteGoes_23 ?_
    refine lv_iconst (v := 4) hx hb dX12_minuteGoes_24 (by decide) ?_
    refine lv_iadd hx hb dX12_minuteGoes_25 ?_
    obtain ⟨j_3, hj_3, hi_3, h⟩ := ck_some h
    refine gx_iald S hK hw tq j_3 hj_3 hi_3 dX12_minuteGoes_26 ?_
    refine lv_if_ne (tgt := 49) hx hb dX12_minuteGoes_27 (by decide) (fun c_4 => ?_) (fun c_4 => ?_)
    · rw [if_neg c_4] at h
      refine lv_iconst (v := 0) hx hb dX12_minuteGoes_49 (by decide) ?_
      refine lv_istore (lv' := [(4, .int 0), (0, .ref (E.2.2 + 199)), (1, .ref (E.2.2 + q)), (2, .int x2), (3, .int x3)]) hx hb dX12_minuteGoes_50 hl (by decide) rfl (fun ls hl => ?_)
      refine lv_iconst (v := 0) hx hb dX12_minuteGoes_52 (by decide) ?_
      refine lv_istore (lv' := [(5, .int 0), (4, .int 0), (0, .ref (E.2.2 + 199)), (1, .ref (E.2.2 + q)), (2, .int x2), (3, .int x3)]) hx hb dX12_minuteGoes_53 hl (by decide) rfl (fun ls hl => ?_)
      exact h_X12_minuteGoes_55 l S hr hlk hK N q tq rec_11 hrec_11 N σ τ x2 x3 0 0 _ _ _ h _ _ _ hw (lv_sub hl [2, 3, 4, 5, 1, 0] rfl)
    · rw [if_pos c_4] at h
      refine lv_aload_n hx hb dX12_minuteGoes_30 rfl (lv_at hl 1 rfl) ?_
      refine lv_bipush (v := 7) hx hb dX12_minuteGoes_31 (by decide) ?_
      refine lv_iload_n hx hb dX12_minuteGoes_33 rfl (lv_at hl 3 rfl) ?_
      refine lv_imul hx hb dX12_minuteGoes_34 ?_
      refine lv_iconst (v := 5) hx hb dX12_minuteGoes_35 (by decide) ?_
      refine lv_iadd hx hb dX12_minuteGoes_36 ?_
      obtain ⟨j_5, hj_5, hi_5, h⟩ := ck_some h
      refine gx_iald S hK hw tq j_5 hj_5 hi_5 dX12_minuteGoes_37 ?_
      refine lv_aload_n hx hb dX12_minuteGoes_38 rfl (lv_at hl 1 rfl) ?_
      refine lv_bipush (v := 43) hx hb dX12_minuteGoes_39 (by decide) ?_
      refine gx_iald S hK hw tq 43 rfl (gx_in rfl (by decide) (by decide)) dX12_minuteGoes_41 ?_
      refine lv_icmp_gt (tgt := 49) hx hb dX12_minuteGoes_42 (by decide) (fun c_6 => ?_) (fun c_6 => ?_)
      · rw [if_pos c_6] at h
        refine lv_iconst (v := 0) hx hb dX12_minuteGoes_49 (by decide) ?_
        refine lv_istore (lv' := [(4, .int 0), (0, .ref (E.2.2 + 199)), (1, .ref (E.2.2 + q)), (2, .int x2), (3, .int x3)]) hx hb dX12_minuteGoes_50 hl (by decide) rfl (fun ls hl => ?_)
        refine lv_iconst (v := 0) hx hb dX12_minuteGoes_52 (by decide) ?_
        refine lv_istore (lv' := [(5, .int 0), (4, .int 0), (0, .ref (E.2.2 + 199)), (1, .ref (E.2.2 + q)), (2, .int x2), (3, .int x3)]) hx hb dX12_minuteGoes_53 hl (by decide) rfl (fun ls hl => ?_)
        exact h_X12_minuteGoes_55 l S hr hlk hK N q tq rec_11 hrec_11 N σ τ x2 x3 0 0 _ _ _ h _ _ _ hw (lv_sub hl [2, 3, 4, 5, 1, 0] rfl)
      · rw [if_neg c_6] at h
        refine lv_iconst (v := 1) hx hb dX12_minuteGoes_45 (by decide) ?_
        refine lv_goto (tgt := 50) hx hb dX12_minuteGoes_46 (by decide) ?_
        refine lv_istore (lv' := [(4, .int 1), (0, .ref (E.2.2 + 199)), (1, .ref (E.2.2 + q)), (2, .int x2), (3, .int x3)]) hx hb dX12_minuteGoes_50 hl (by decide) rfl (fun ls hl => ?_)
        refine lv_iconst (v := 0) hx hb dX12_minuteGoes_52 (by decide) ?_
        refine lv_istore (lv' := [(5, .int 0), (4, .int 1), (0, .ref (E.2.2 + 199)), (1, .ref (E.2.2 + q)), (2, .int x2), (3, .int x3)]) hx hb dX12_minuteGoes_53 hl (by decide) rfl (fun ls hl => ?_)
        exact h_X12_minuteGoes_55 l S hr hlk hK N q tq rec_11 hrec_11 N σ τ x2 x3 1 0 _ _ _ h _ _ _ hw (lv_sub hl [2, 3, 4, 5, 1, 0] rfl)
set_option maxHeartbeats 4000000 in
set_option maxRecDepth 100000 in
theorem h_X12_minuteGoes_11 (l : Launch) (S : CallFix P9 m9 C9 cX12_minuteGoes 6 s av.toArray gx_G RX12) (hr : meth.sig.returnType = none) (hlk : meth.locks = false) (hK : gx_K E s) (N : Nat) (q : Nat) (tq : gx_tb[q]? = some (.inr (0, 45, []))) : ∀ (n : Nat) (σ : gI) (τ : gJ) (x2 : Int32) (x3 : Int32) (r : Unit) (σ1 : gI) (τ1 : gJ), H_X12_minuteGoes_11 N q n σ τ x2 x3 = some (r, σ1, τ1) → ∀ (H : Heap) (locs : List Loc) (ls : Array Slot), gx_W gx_tb gx_tb.length E s σ τ H locs → lv_has ls 6 [(0, .ref (E.2.2 + 199)), (1, .ref (E.2.2 + q)), (2, .int x2), (3, .int x3)] → W P9 l e9 (gx_rm 5) s m9 av.toArray below meth C9 H locs 0 0 (gq_Qv below av s E σ1 τ1) (F0 m9 11 ls []) := by
  intro n
  induction n with
  | zero => intro σ τ x2 x3 r σ1 τ1 h; cases h
  | succ n ih =>
    intro σ τ x2 x3 r σ1 τ1 h H locs ls hw hl
    exact k_X12_minuteGoes_11 l S hr hlk hK N q tq (H_X12_minuteGoes_11 N q n) (fun σ τ x2 x3 r σ1 τ1 H locs ls h hw hl => ih σ τ x2 x3 r σ1 τ1 h H locs ls hw hl) σ τ x2 x3 h hw hl
set_option maxHeartbeats 4000000 in
set_option maxRecDepth 100000 in
theorem b_X12_minuteGoes_0 (l : Launch) (S : CallFix P9 m9 C9 cX12_minuteGoes 6 s av.toArray gx_G RX12) (hr : meth.sig.returnType = none) (hlk : meth.locks = false) (hK : gx_K E s) (N : Nat) (q : Nat) (tq : gx_tb[q]? = some (.inr (0, 45, []))) (σ : gI) (τ : gJ) {r : Unit} {σ1 : gI} {τ1 : gJ} (h : B_X12_minuteGoes_0 N q σ τ = some (r, σ1, τ1)) {H : Heap} {locs : List Loc} {ls : Array Slot} (hw : gx_W gx_tb gx_tb.length E s σ τ H locs) (hl : lv_has ls 6 [(0, .ref (E.2.2 + 199)), (1, .ref (E.2.2 + q))]) : W P9 l e9 (gx_rm 5) s m9 av.toArray below meth C9 H locs 0 0 (gq_Qv below av s E σ1 τ1) (F0 m9 0 ls []) := by
  have hx := S.1
  have hb := S.2.1
  unfold B_X12_minuteGoes_0 at h
  refine lv_aload_n hx hb dX12_minuteGoes_0 rfl (lv_at hl 0 rfl) ?_
  refine lv_aload_n hx hb dX12_minuteGoes_1 rfl (lv_at hl 1 rfl) ?_
  refine lv_bipush (v := 43) hx hb dX12_minuteGoes_2 (by decide) ?_
  refine gx_iald S hK hw tq 43 rfl (gx_in rfl (by decide) (by decide)) dX12_minuteGoes_4 ?_
  obtain ⟨r_1, σ_1, τ_1, q_1, h⟩ := bd_some h
  refine gx_cVi (As := [.int (σ q 43)]) (rest := []) S hK gx_ok hw (c_X12_waterIn l (E := E) N σ τ (σ q 43) q_1) cw_X12_268 t_199 cl_13 ⟨Nat.le_of_ble_eq_true rfl, Nat.le_of_ble_eq_true rfl⟩ rfl hl.1 rfl (Nat.le_of_ble_eq_true rfl) ⟨Nat.le_of_ble_eq_true rfl, Nat.le_of_ble_eq_true rfl⟩ dX12_minuteGoes_5 (fun r9 σ9 τ9 H locs hp hw => ?_)
  obtain ⟨rfl, rfl, rfl⟩ := hp
  refine lv_istore_n (lv' := [(2, .int r_1), (0, .ref (E.2.2 + 199)), (1, .ref (E.2.2 + q))]) hx hb dX12_minuteGoes_8 rfl hl (by decide) rfl (fun ls hl => ?_)
  refine lv_iconst (v := 0) hx hb dX12_minuteGoes_9 (by decide) ?_
  refine lv_istore_n (lv' := [(3, .int 0), (2, .int r_1), (0, .ref (E.2.2 + 199)), (1, .ref (E.2.2 + q))]) hx hb dX12_minuteGoes_10 rfl hl (by decide) rfl (fun ls hl => ?_)
  exact h_X12_minuteGoes_11 l S hr hlk hK N q tq N σ_1 τ_1 r_1 0 _ _ _ h _ _ _ hw (lv_sub hl [2, 3, 1, 0] rfl)
set_option maxHeartbeats 4000000 in
set_option maxRecDepth 100000 in
theorem c_X12_minuteGoes (l : Launch) {E : gE} (N : Nat) (q : Nat) (tq : gx_tb[q]? = some (.inr (0, 45, []))) (σ : gI) (τ : gJ) {r : Unit} {σ1 : gI} {τ1 : gJ} (h : B_X12_minuteGoes_0 N q σ τ = some (r, σ1, τ1)) : gx_Mv l yX12_minuteGoes cX12_minuteGoes 6 none 5 gx_tb E σ τ [.ref (E.2.2 + 199), .ref (E.2.2 + q)] (gq_v σ1 τ1) := by
  refine gx_bv (by decide +kernel) (Nat.le_of_ble_eq_true rfl) ?_
  intro P9 e9 s m9 below meth C9 S hr hlk hK hw ls hl
  have hl : lv_has ls 6 [(0, .ref (E.2.2 + 199)), (1, .ref (E.2.2 + q))] := hl
  exact b_X12_minuteGoes_0 l S hr hlk hK N q tq σ τ h hw hl
/-! X12_endsAfter -/
def C_X12_endsAfter_3 (N : Nat) (q : Nat) (rec_3 : gI → gJ → Int32 → Int32 → Option (Int32 × gI × gJ)) (σ : gI) (τ : gJ) (x2 : Int32) (x4 : Int32) : Option (Int32 × gI × gJ) := if 300 < x4 then (some ((-1), σ, τ)) else (ck ((7 * x2) + 4) 45 fun j_2 => if σ q j_2 = 0 then (if 300 ≤ x4 then (nm (x4 + 1) fun v_5 => rec_3 σ τ x2 v_5) else (bd (B_X12_minuteGoes_0 N q σ τ) fun _ σ_6 τ_6 => nm (x4 + 1) fun v_7 => rec_3 σ_6 τ_6 x2 v_7)) else (some (x4, σ, τ)))
def H_X12_endsAfter_3 (N : Nat) (q : Nat) : Nat → gI → gJ → Int32 → Int32 → Option (Int32 × gI × gJ) := itn (fun rec_3 => C_X12_endsAfter_3 N q rec_3) (fun _ _ _ _ => none)
def B_X12_endsAfter_0 (N : Nat) (q : Nat) (σ : gI) (τ : gJ) (x2 : Int32) (x3 : Int32) : Option (Int32 × gI × gJ) := H_X12_endsAfter_3 N q N σ τ x2 x3
set_option maxHeartbeats 4000000 in
set_option maxRecDepth 100000 in
theorem k_X12_endsAfter_3 (l : Launch) (S : CallFix P9 m9 C9 cX12_endsAfter 5 s av.toArray gx_G RX12) (hr : meth.sig.returnType = (some .int)) (hlk : meth.locks = false) (hK : gx_K E s) (N : Nat) (q : Nat) (tq : gx_tb[q]? = some (.inr (0, 45, []))) (rec_3 : gI → gJ → Int32 → Int32 → Option (Int32 × gI × gJ)) (hrec_3 : ∀ (σ : gI) (τ : gJ) (x2 : Int32) (x4 : Int32) (r : Int32) (σ1 : gI) (τ1 : gJ) (H : Heap) (locs : List Loc) (ls : Array Slot), rec_3 σ τ x2 x4 = some (r, σ1, τ1) → gx_W gx_tb gx_tb.length E s σ τ H locs → lv_has ls 5 [(0, .ref (E.2.2 + 199)), (1, .ref (E.2.2 + q)), (2, .int x2), (4, .int x4)] → W P9 l e9 (gx_rm 6) s m9 av.toArray below meth C9 H locs 0 0 (gq_Qi below av s E r σ1 τ1) (F0 m9 3 ls [])) (σ : gI) (τ : gJ) (x2 : Int32) (x4 : Int32) {r : Int32} {σ1 : gI} {τ1 : gJ} (h : C_X12_endsAfter_3 N q rec_3 σ τ x2 x4 = some (r, σ1, τ1)) {H : Heap} {locs : List Loc} {ls : Array Slot} (hw : gx_W gx_tb gx_tb.length E s σ τ H locs) (hl : lv_has ls 5 [(0, .ref (E.2.2 + 199)), (1, .ref (E.2.2 + q)), (2, .int x2), (4, .int x4)]) : W P9 l e9 (gx_rm 6) s m9 av.toArray below meth C9 H locs 0 0 (gq_Qi below av s E r σ1 τ1) (F0 m9 3 ls []) := by
  have hx := S.1
  have hb := S.2.1
  unfold C_X12_endsAfter_3 at h
  refine lv_iload hx hb dX12_endsAfter_3 (lv_at hl 3 rfl) ?_
  refine lv_sipush (v := 300) hx hb dX12_endsAfter_5 (by decide) ?_
  refine lv_icmp_gt (tgt := 44) hx hb dX12_endsAfter_8 (by decide) (fun c_1 => ?_) (fun c_1 => ?_)
  · rw [if_pos c_1] at h
    refine lv_iconst (v := (-1)) hx hb dX12_endsAfter_44 (by decide) ?_
    obtain ⟨rfl, rfl, rfl⟩ := sm_inj h
    exact gx_ri (post := gq_p (-1) σ τ) (v := (-1)) S hr hlk hw rfl dX12_endsAfter_45 ⟨rfl, rfl, rfl⟩
  · rw [if_neg c_1] at h
    refine lv_aload_n hx hb dX12_endsAfter_11 rfl (lv_at hl 1 rfl) ?_
    refine lv_bipush (v := 7) hx hb dX12_endsAfter_12 (by decide) ?_
    refine lv_iload_n hx hb dX12_endsAfter_14 rfl (lv_at hl 2 rfl) ?_
    refine lv_imul hx hb dX12_endsAfter_15 ?_
    refine lv_iconst (v := 4) hx hb dX12_endsAfter_16 (by decide) ?_
    refine lv_iadd hx hb dX12_endsAfter_17 ?_
    obtain ⟨j_2, hj_2, hi_2, h⟩ := ck_some h
    refine gx_iald S hK hw tq j_2 hj_2 hi_2 dX12_endsAfter_18 ?_
    refine lv_if_eq (tgt := 25) hx hb dX12_endsAfter_19 (by decide) (fun c_3 => ?_) (fun c_3 => ?_)
    · rw [if_pos c_3] at h
      refine lv_iload hx hb dX12_endsAfter_25 (lv_at hl 3 rfl) ?_
      refine lv_sipush (v := 300) hx hb dX12_endsAfter_27 (by decide) ?_
      refine lv_icmp_ge (tgt := 38) hx hb dX12_endsAfter_30 (by decide) (fun c_4 => ?_) (fun c_4 => ?_)
      · rw [if_pos c_4] at h
        refine lv_iinc (v := x4 + 1) (lv' := [(4, .int (x4 + 1)), (0, .ref (E.2.2 + 199)), (1, .ref (E.2.2 + q)), (2, .int x2)]) hx hb dX12_endsAfter_38 hl (k := 3) rfl rfl (by decide) rfl (fun ls hl => ?_)
        obtain ⟨v_5, e_5, h⟩ := nm_some h
        have hl : lv_has ls 5 [(4, .int v_5), (0, .ref (E.2.2 + 199)), (1, .ref (E.2.2 + q)), (2, .int x2)] := by rw [e_5]; exact hl
        refine lv_goto (tgt := 3) hx hb dX12_endsAfter_41 (by decide) ?_
        exact hrec_3 σ τ x2 v_5 _ _ _ _ _ _ h hw (lv_sub hl [1, 2, 3, 0] rfl)
      · rw [if_neg c_4] at h
        refine lv_aload_n hx hb dX12_endsAfter_33 rfl (lv_at hl 0 rfl) ?_
        refine lv_aload_n hx hb dX12_endsAfter_34 rfl (lv_at hl 1 rfl) ?_
        obtain ⟨u_6, σ_6, τ_6, q_6, h⟩ := bd_some h
        refine gx_cVv (As := [.ref (E.2.2 + q)]) (rest := []) S hK gx_ok hw (c_X12_minuteGoes l (E := E) N q tq σ τ q_6) cw_X12_349 t_199 cl_13 ⟨Nat.le_of_ble_eq_true rfl, Nat.le_of_ble_eq_true rfl⟩ rfl hl.1 rfl (Nat.le_of_ble_eq_true rfl) ⟨Nat.le_of_ble_eq_true rfl, Nat.le_of_ble_eq_true rfl⟩ dX12_endsAfter_35 (fun σ9 τ9 H locs hp hw => ?_)
        obtain ⟨rfl, rfl⟩ := hp
        refine lv_iinc (v := x4 + 1) (lv' := [(4, .int (x4 + 1)), (0, .ref (E.2.2 + 199)), (1, .ref (E.2.2 + q)), (2, .int x2)]) hx hb dX12_endsAfter_38 hl (k := 3) rfl rfl (by decide) rfl (fun ls hl => ?_)
        obtain ⟨v_7, e_7, h⟩ := nm_some h
        have hl : lv_has ls 5 [(4, .int v_7), (0, .ref (E.2.2 + 199)), (1, .ref (E.2.2 + q)), (2, .int x2)] := by rw [e_7]; exact hl
        refine lv_goto (tgt := 3) hx hb dX12_endsAfter_41 (by decide) ?_
        exact hrec_3 σ_6 τ_6 x2 v_7 _ _ _ _ _ _ h hw (lv_sub hl [1, 2, 3, 0] rfl)
    · rw [if_neg c_3] at h
      refine lv_iload hx hb dX12_endsAfter_22 (lv_at hl 3 rfl) ?_
      obtain ⟨rfl, rfl, rfl⟩ := sm_inj h
      exact gx_ri (post := gq_p x4 σ τ) (v := x4) S hr hlk hw rfl dX12_endsAfter_24 ⟨rfl, rfl, rfl⟩
set_option maxHeartbeats 4000000 in
set_option maxRecDepth 100000 in
theorem h_X12_endsAfter_3 (l : Launch) (S : CallFix P9 m9 C9 cX12_endsAfter 5 s av.toArray gx_G RX12) (hr : meth.sig.returnType = (some .int)) (hlk : meth.locks = false) (hK : gx_K E s) (N : Nat) (q : Nat) (tq : gx_tb[q]? = some (.inr (0, 45, []))) : ∀ (n : Nat) (σ : gI) (τ : gJ) (x2 : Int32) (x4 : Int32) (r : Int32) (σ1 : gI) (τ1 : gJ), H_X12_endsAfter_3 N q n σ τ x2 x4 = some (r, σ1, τ1) → ∀ (H : Heap) (locs : List Loc) (ls : Array Slot), gx_W gx_tb gx_tb.length E s σ τ H locs → lv_has ls 5 [(0, .ref (E.2.2 + 199)), (1, .ref (E.2.2 + q)), (2, .int x2), (4, .int x4)] → W P9 l e9 (gx_rm 6) s m9 av.toArray below meth C9 H locs 0 0 (gq_Qi below av s E r σ1 τ1) (F0 m9 3 ls []) := by
  intro n
  induction n with
  | zero => intro σ τ x2 x4 r σ1 τ1 h; cases h
  | succ n ih =>
    intro σ τ x2 x4 r σ1 τ1 h H locs ls hw hl
    exact k_X12_endsAfter_3 l S hr hlk hK N q tq (H_X12_endsAfter_3 N q n) (fun σ τ x2 x4 r σ1 τ1 H locs ls h hw hl => ih σ τ x2 x4 r σ1 τ1 h H locs ls hw hl) σ τ x2 x4 h hw hl
set_option maxHeartbeats 4000000 in
set_option maxRecDepth 100000 in
theorem b_X12_endsAfter_0 (l : Launch) (S : CallFix P9 m9 C9 cX12_endsAfter 5 s av.toArray gx_G RX12) (hr : meth.sig.returnType = (some .int)) (hlk : meth.locks = false) (hK : gx_K E s) (N : Nat) (q : Nat) (tq : gx_tb[q]? = some (.inr (0, 45, []))) (σ : gI) (τ : gJ) (x2 : Int32) (x3 : Int32) {r : Int32} {σ1 : gI} {τ1 : gJ} (h : B_X12_endsAfter_0 N q σ τ x2 x3 = some (r, σ1, τ1)) {H : Heap} {locs : List Loc} {ls : Array Slot} (hw : gx_W gx_tb gx_tb.length E s σ τ H locs) (hl : lv_has ls 5 [(0, .ref (E.2.2 + 199)), (1, .ref (E.2.2 + q)), (2, .int x2), (3, .int x3)]) : W P9 l e9 (gx_rm 6) s m9 av.toArray below meth C9 H locs 0 0 (gq_Qi below av s E r σ1 τ1) (F0 m9 0 ls []) := by
  have hx := S.1
  have hb := S.2.1
  unfold B_X12_endsAfter_0 at h
  refine lv_iload_n hx hb dX12_endsAfter_0 rfl (lv_at hl 3 rfl) ?_
  refine lv_istore (lv' := [(4, .int x3), (0, .ref (E.2.2 + 199)), (1, .ref (E.2.2 + q)), (2, .int x2), (3, .int x3)]) hx hb dX12_endsAfter_1 hl (by decide) rfl (fun ls hl => ?_)
  exact h_X12_endsAfter_3 l S hr hlk hK N q tq N σ τ x2 x3 _ _ _ h _ _ _ hw (lv_sub hl [1, 2, 3, 0] rfl)
set_option maxHeartbeats 4000000 in
set_option maxRecDepth 100000 in
theorem c_X12_endsAfter (l : Launch) {E : gE} (N : Nat) (q : Nat) (tq : gx_tb[q]? = some (.inr (0, 45, []))) (σ : gI) (τ : gJ) (x2 : Int32) (x3 : Int32) {r : Int32} {σ1 : gI} {τ1 : gJ} (h : B_X12_endsAfter_0 N q σ τ x2 x3 = some (r, σ1, τ1)) : gx_Mi l yX12_endsAfter cX12_endsAfter 5 (some .int) 6 gx_tb E σ τ [.ref (E.2.2 + 199), .ref (E.2.2 + q), .int x2, .int x3] (gq_p r σ1 τ1) := by
  refine gx_bi (by decide +kernel) (Nat.le_of_ble_eq_true rfl) ?_
  intro P9 e9 s m9 below meth C9 S hr hlk hK hw ls hl
  have hl : lv_has ls 5 [(0, .ref (E.2.2 + 199)), (1, .ref (E.2.2 + q)), (2, .int x2), (3, .int x3)] := hl
  exact b_X12_endsAfter_0 l S hr hlk hK N q tq σ τ x2 x3 h hw hl
/-! X12_goesAlone -/
def B_X12_goesAlone_0 (N : Nat) (σ : gI) (τ : gJ) (x1 : Int32) (x2 : Int32) (x3 : Int32) (x4 : Int32) : Option (Int32 × gI × gJ) := bd (B_X12_laysAlone_0 N σ τ x1 x2 x3 x4) fun _ σ_1 τ_1 => bd (B_X12_endsAfter_0 N 224 σ_1 τ_1 0 0) fun r_2 σ_2 τ_2 => some (r_2, σ_2, τ_2)
set_option maxHeartbeats 4000000 in
set_option maxRecDepth 100000 in
theorem b_X12_goesAlone_0 (l : Launch) (S : CallFix P9 m9 C9 cX12_goesAlone 5 s av.toArray gx_G RX12) (hr : meth.sig.returnType = (some .int)) (hlk : meth.locks = false) (hK : gx_K E s) (N : Nat) (σ : gI) (τ : gJ) (x1 : Int32) (x2 : Int32) (x3 : Int32) (x4 : Int32) {r : Int32} {σ1 : gI} {τ1 : gJ} (h : B_X12_goesAlone_0 N σ τ x1 x2 x3 x4 = some (r, σ1, τ1)) {H : Heap} {locs : List Loc} {ls : Array Slot} (hw : gx_W gx_tb gx_tb.length E s σ τ H locs) (hl : lv_has ls 5 [(0, .ref (E.2.2 + 199)), (1, .int x1), (2, .int x2), (3, .int x3), (4, .int x4)]) : W P9 l e9 (gx_rm 7) s m9 av.toArray below meth C9 H locs 0 0 (gq_Qi below av s E r σ1 τ1) (F0 m9 0 ls []) := by
  have hx := S.1
  have hb := S.2.1
  unfold B_X12_goesAlone_0 at h
  refine lv_aload_n hx hb dX12_goesAlone_0 rfl (lv_at hl 0 rfl) ?_
  refine lv_iload_n hx hb dX12_goesAlone_1 rfl (lv_at hl 1 rfl) ?_
  refine lv_iload_n hx hb dX12_goesAlone_2 rfl (lv_at hl 2 rfl) ?_
  refine lv_iload_n hx hb dX12_goesAlone_3 rfl (lv_at hl 3 rfl) ?_
  refine lv_iload hx hb dX12_goesAlone_4 (lv_at hl 4 rfl) ?_
  obtain ⟨u_1, σ_1, τ_1, q_1, h⟩ := bd_some h
  refine gx_cVv (As := [.int x1, .int x2, .int x3, .int x4]) (rest := []) S hK gx_ok hw (c_X12_laysAlone l (E := E) N σ τ x1 x2 x3 x4 q_1) cw_X12_395 t_199 cl_13 ⟨Nat.le_of_ble_eq_true rfl, Nat.le_of_ble_eq_true rfl⟩ rfl hl.1 rfl (Nat.le_of_ble_eq_true rfl) ⟨Nat.le_of_ble_eq_true rfl, Nat.le_of_ble_eq_true rfl⟩ dX12_goesAlone_6 (fun σ9 τ9 H locs hp hw => ?_)
  obtain ⟨rfl, rfl⟩ := hp
  refine lv_aload_n hx hb dX12_goesAlone_9 rfl (lv_at hl 0 rfl) ?_
  refine lv_aload_n hx hb dX12_goesAlone_10 rfl (lv_at hl 0 rfl) ?_
  refine gx_getr (j := 224) S hK hw t_199 cl_13 44 (by decide) rfl mw_1458 rfl dX12_goesAlone_11 ?_
  refine lv_iconst (v := 0) hx hb dX12_goesAlone_14 (by decide) ?_
  refine lv_iconst (v := 0) hx hb dX12_goesAlone_15 (by decide) ?_
  obtain ⟨r_2, σ_2, τ_2, q_2, h⟩ := bd_some h
  refine gx_cVi (As := [.ref (E.2.2 + 224), .int 0, .int 0]) (rest := []) S hK gx_ok hw (c_X12_endsAfter l (E := E) N 224 t_224 σ_1 τ_1 0 0 q_2) cw_X12_383 t_199 cl_13 ⟨Nat.le_of_ble_eq_true rfl, Nat.le_of_ble_eq_true rfl⟩ rfl hl.1 rfl (Nat.le_of_ble_eq_true rfl) ⟨Nat.le_of_ble_eq_true rfl, Nat.le_of_ble_eq_true rfl⟩ dX12_goesAlone_16 (fun r9 σ9 τ9 H locs hp hw => ?_)
  obtain ⟨rfl, rfl, rfl⟩ := hp
  obtain ⟨rfl, rfl, rfl⟩ := sm_inj h
  exact gx_ri (post := gq_p r_2 σ_2 τ_2) (v := r_2) S hr hlk hw rfl dX12_goesAlone_19 ⟨rfl, rfl, rfl⟩
set_option maxHeartbeats 4000000 in
set_option maxRecDepth 100000 in
theorem c_X12_goesAlone (l : Launch) {E : gE} (N : Nat) (σ : gI) (τ : gJ) (x1 : Int32) (x2 : Int32) (x3 : Int32) (x4 : Int32) {r : Int32} {σ1 : gI} {τ1 : gJ} (h : B_X12_goesAlone_0 N σ τ x1 x2 x3 x4 = some (r, σ1, τ1)) : gx_Mi l yX12_goesAlone cX12_goesAlone 5 (some .int) 7 gx_tb E σ τ [.ref (E.2.2 + 199), .int x1, .int x2, .int x3, .int x4] (gq_p r σ1 τ1) := by
  refine gx_bi (by decide +kernel) (Nat.le_of_ble_eq_true rfl) ?_
  intro P9 e9 s m9 below meth C9 S hr hlk hK hw ls hl
  have hl : lv_has ls 5 [(0, .ref (E.2.2 + 199)), (1, .int x1), (2, .int x2), (3, .int x3), (4, .int x4)] := hl
  exact b_X12_goesAlone_0 l S hr hlk hK N σ τ x1 x2 x3 x4 h hw hl
/-! X12_sails -/
def B_X12_sails_0 (N : Nat) (σ : gI) (τ : gJ) (x1 : Int32) (x2 : Int32) (x3 : Int32) (x4 : Int32) (x5 : Int32) : Option (Int32 × gI × gJ) := bd (B_X12_goesAlone_0 N σ τ x1 x2 x3 x4) fun r_1 σ_1 τ_1 => if r_1 < 0 then (some ((-2), σ_1, τ_1)) else (if σ_1 224 4 = 1 then (if σ_1 224 0 = x5 then (some (r_1, σ_1, τ_1)) else (some ((-2), σ_1, τ_1))) else (some ((-2), σ_1, τ_1)))
set_option maxHeartbeats 4000000 in
set_option maxRecDepth 100000 in
theorem b_X12_sails_0 (l : Launch) (S : CallFix P9 m9 C9 cX12_sails 7 s av.toArray gx_G RX12) (hr : meth.sig.returnType = (some .int)) (hlk : meth.locks = false) (hK : gx_K E s) (N : Nat) (σ : gI) (τ : gJ) (x1 : Int32) (x2 : Int32) (x3 : Int32) (x4 : Int32) (x5 : Int32) {r : Int32} {σ1 : gI} {τ1 : gJ} (h : B_X12_sails_0 N σ τ x1 x2 x3 x4 x5 = some (r, σ1, τ1)) {H : Heap} {locs : List Loc} {ls : Array Slot} (hw : gx_W gx_tb gx_tb.length E s σ τ H locs) (hl : lv_has ls 7 [(0, .ref (E.2.2 + 199)), (1, .int x1), (2, .int x2), (3, .int x3), (4, .int x4), (5, .int x5)]) : W P9 l e9 (gx_rm 8) s m9 av.toArray below meth C9 H locs 0 0 (gq_Qi below av s E r σ1 τ1) (F0 m9 0 ls []) := by
  have hx := S.1
  have hb := S.2.1
  unfold B_X12_sails_0 at h
  refine lv_aload_n hx hb dX12_sails_0 rfl (lv_at hl 0 rfl) ?_
  refine lv_iload_n hx hb dX12_sails_1 rfl (lv_at hl 1 rfl) ?_
  refine lv_iload_n hx hb dX12_sails_2 rfl (lv_at hl 2 rfl) ?_
  refine lv_iload_n hx hb dX12_sails_3 rfl (lv_at hl 3 rfl) ?_
  refine lv_iload hx hb dX12_sails_4 (lv_at hl 4 rfl) ?_
  obtain ⟨r_1, σ_1, τ_1, q_1, h⟩ := bd_some h
  refine gx_cVi (As := [.int x1, .int x2, .int x3, .int x4]) (rest := []) S hK gx_ok hw (c_X12_goesAlone l (E := E) N σ τ x1 x2 x3 x4 q_1) cw_X12_399 t_199 cl_13 ⟨Nat.le_of_ble_eq_true rfl, Nat.le_of_ble_eq_true rfl⟩ rfl hl.1 rfl (Nat.le_of_ble_eq_true rfl) ⟨Nat.le_of_ble_eq_true rfl, Nat.le_of_ble_eq_true rfl⟩ dX12_sails_6 (fun r9 σ9 τ9 H locs hp hw => ?_)
  obtain ⟨rfl, rfl, rfl⟩ := hp
  refine lv_istore (lv' := [(6, .int r_1), (0, .ref (E.2.2 + 199)), (1, .int x1), (2, .int x2), (3, .int x3), (4, .int x4), (5, .int x5)]) hx hb dX12_sails_9 hl (by decide) rfl (fun ls hl => ?_)
  refine lv_iload hx hb dX12_sails_11 (lv_at hl 0 rfl) ?_
  refine lv_if_lt (tgt := 42) hx hb dX12_sails_13 (by decide) (fun c_2 => ?_) (fun c_2 => ?_)
  · rw [if_pos c_2] at h
    refine lv_bipush (v := (-2)) hx hb dX12_sails_42 (by decide) ?_
    obtain ⟨rfl, rfl, rfl⟩ := sm_inj h
    exact gx_ri (post := gq_p (-2) σ_1 τ_1) (v := (-2)) S hr hlk hw rfl dX12_sails_44 ⟨rfl, rfl, rfl⟩
  · rw [if_neg c_2] at h
    refine lv_aload_n hx hb dX12_sails_16 rfl (lv_at hl 1 rfl) ?_
    refine gx_getr (j := 224) S hK hw t_199 cl_13 44 (by decide) rfl mw_1458 rfl dX12_sails_17 ?_
    refine lv_iconst (v := 4) hx hb dX12_sails_20 (by decide) ?_
    refine gx_iald S hK hw t_224 4 rfl (gx_in rfl (by decide) (by decide)) dX12_sails_21 ?_
    refine lv_iconst (v := 1) hx hb dX12_sails_22 (by decide) ?_
    refine lv_icmp_ne (tgt := 42) hx hb dX12_sails_23 (by decide) (fun c_3 => ?_) (fun c_3 => ?_)
    · rw [if_neg c_3] at h
      refine lv_bipush (v := (-2)) hx hb dX12_sails_42 (by decide) ?_
      obtain ⟨rfl, rfl, rfl⟩ := sm_inj h
      exact gx_ri (post := gq_p (-2) σ_1 τ_1) (v := (-2)) S hr hlk hw rfl dX12_sails_44 ⟨rfl, rfl, rfl⟩
    · rw [if_pos c_3] at h
      refine lv_aload_n hx hb dX12_sails_26 rfl (lv_at hl 1 rfl) ?_
      refine gx_getr (j := 224) S hK hw t_199 cl_13 44 (by decide) rfl mw_1458 rfl dX12_sails_27 ?_
      refine lv_iconst (v := 0) hx hb dX12_sails_30 (by decide) ?_
      refine gx_iald S hK hw t_224 0 rfl (gx_in rfl (by decide) (by decide)) dX12_sails_31 ?_
      refine lv_iload hx hb dX12_sails_32 (lv_at hl 6 rfl) ?_
      refine lv_icmp_ne (tgt := 42) hx hb dX12_sails_34 (by decide) (fun c_4 => ?_) (fun c_4 => ?_)
      · rw [if_neg c_4] at h
        refine lv_bipush (v := (-2)) hx hb dX12_sails_42 (by decide) ?_
        obtain ⟨rfl, rfl, rfl⟩ := sm_inj h
        exact gx_ri (post := gq_p (-2) σ_1 τ_1) (v := (-2)) S hr hlk hw rfl dX12_sails_44 ⟨rfl, rfl, rfl⟩
      · rw [if_pos c_4] at h
        refine lv_iload hx hb dX12_sails_37 (lv_at hl 0 rfl) ?_
        refine lv_goto (tgt := 44) hx hb dX12_sails_39 (by decide) ?_
        obtain ⟨rfl, rfl, rfl⟩ := sm_inj h
        exact gx_ri (post := gq_p r_1 σ_1 τ_1) (v := r_1) S hr hlk hw rfl dX12_sails_44 ⟨rfl, rfl, rfl⟩
set_option maxHeartbeats 4000000 in
set_option maxRecDepth 100000 in
theorem c_X12_sails (l : Launch) {E : gE} (N : Nat) (σ : gI) (τ : gJ) (x1 : Int32) (x2 : Int32) (x3 : Int32) (x4 : Int32) (x5 : Int32) {r : Int32} {σ1 : gI} {τ1 : gJ} (h : B_X12_sails_0 N σ τ x1 x2 x3 x4 x5 = some (r, σ1, τ1)) : gx_Mi l yX12_sails cX12_sails 7 (some .int) 8 gx_tb E σ τ [.ref (E.2.2 + 199), .int x1, .int x2, .int x3, .int x4, .int x5] (gq_p r σ1 τ1) := by
  refine gx_bi (by decide +kernel) (Nat.le_of_ble_eq_true rfl) ?_
  intro P9 e9 s m9 below meth C9 S hr hlk hK hw ls hl
  have hl : lv_has ls 7 [(0, .ref (E.2.2 + 199)), (1, .int x1), (2, .int x2), (3, .int x3), (4, .int x4), (5, .int x5)] := hl
  exact b_X12_sails_0 l S hr hlk hK N σ τ x1 x2 x3 x4 x5 h hw hl
end F5
