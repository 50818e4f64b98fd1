def sb_10 : List Int32 := [97, 98, 99, 100, 101, 102, 103, 104, 105, 106, 107, 108]
theorem zk_10 : gx_ss[10]? = some (RX12, 181, "abcdefghijkl", sb_10) := rfl
def sb_19 : List Int32 := [116, 112, 110, 99]
theorem zk_19 : gx_ss[19]? = some (RX12, 361, "tpnc", sb_19) := rfl
def sb_20 : List Int32 := [49, 50, 51, 52, 53, 54, 55, 56, 57]
theorem zk_20 : gx_ss[20]? = some (RX12, 363, "123456789", sb_20) := rfl
section F6
variable {a9 v9 : Nat} {w9 : Value} {P9 : Program} {e9 : Env} {s : State} {m9 : MethodId} {below : List Frame} {meth : Method} {C9 : Code} {E : gE} {av : List Value}
/-! X12_enters -/
def B_X12_enters_0 (N : Nat) (σ : gI) (τ : gJ) (x1 : Int64) : Option (Unit × gI × gJ) := ck (σ 199 1) 16 fun j_1 => nm (upJ τ 200 j_1 x1) fun τ_2 => nm (up2 σ 199 1 ((σ 199 1) + 1)) fun σ_3 => some ((), σ_3, τ_2)
set_option maxHeartbeats 4000000 in
set_option maxRecDepth 100000 in
theorem b_X12_enters_0 (l : Launch) (S : CallFix P9 m9 C9 cX12_enters 3 s av.toArray gx_G RX12) (hr : meth.sig.returnType = none) (hlk : meth.locks = false) (hK : gx_K E s) (N : Nat) (σ : gI) (τ : gJ) (x1 : Int64) {r : Unit} {σ1 : gI} {τ1 : gJ} (h : B_X12_enters_0 N σ τ x1 = some (r, σ1, τ1)) {H : Heap} {locs : List Loc} {ls : Array Slot} (hw : gx_W gx_tb gx_tb.length E s σ τ H locs) (hl : lv_has ls 3 [(0, .ref (E.2.2 + 199)), (1, .long x1)]) : W P9 l e9 (gx_rm 0) s m9 av.toArray below meth C9 H locs 0 0 (gq_Qv below av s E σ1 τ1) (F0 m9 0 ls []) := by
  have hx := S.1
  have hb := S.2.1
  unfold B_X12_enters_0 at h
  refine lv_aload_n hx hb dX12_enters_0 rfl (lv_at hl 0 rfl) ?_
  refine gx_getr (j := 200) S hK hw t_199 cl_13 2 (by decide) rfl mw_1416 rfl dX12_enters_1 ?_
  refine lv_aload_n hx hb dX12_enters_4 rfl (lv_at hl 0 rfl) ?_
  refine gx_get S hK hw t_199 cl_13 1 (by decide) rfl mw_1415 rfl dX12_enters_5 ?_
  refine lv_lload_n hx hb dX12_enters_8 rfl (lv_at hl 1 rfl) ?_
  obtain ⟨j_1, hj_1, hi_1, h⟩ := ck_some h
  refine gx_last S hK gx_ok hw t_200 j_1 hj_1 hi_1 dX12_enters_9 (fun H locs hw => ?_)
  obtain ⟨τ_2, e_2, h⟩ := nm_some h
  rw [← e_2] at hw
  refine lv_aload_n hx hb dX12_enters_10 rfl (lv_at hl 0 rfl) ?_
  refine lv_dup hx hb dX12_enters_11 rfl ?_
  refine gx_get S hK hw t_199 cl_13 1 (by decide) rfl mw_1415 rfl dX12_enters_12 ?_
  refine lv_iconst (v := 1) hx hb dX12_enters_15 (by decide) ?_
  refine lv_iadd hx hb dX12_enters_16 ?_
  refine gx_put S hK gx_ok hw t_199 cl_13 1 (by decide) rfl mw_1415 rfl rfl (ty := .int) (v := (σ 199 1) + 1) (by decide +kernel) rfl rfl dX12_enters_17 (fun H locs hw => ?_)
  obtain ⟨σ_3, e_3, h⟩ := nm_some h
  rw [← e_3] at hw
  obtain ⟨-, rfl, rfl⟩ := sm_inj h
  exact gx_rv (post := gq_v σ_3 τ_2) S hr hlk hw dX12_enters_20 ⟨rfl, rfl⟩
set_option maxHeartbeats 4000000 in
set_option maxRecDepth 100000 in
theorem c_X12_enters (l : Launch) {E : gE} (N : Nat) (σ : gI) (τ : gJ) (x1 : Int64) {r : Unit} {σ1 : gI} {τ1 : gJ} (h : B_X12_enters_0 N σ τ x1 = some (r, σ1, τ1)) : gx_Mv l yX12_enters cX12_enters 3 none 0 gx_tb E σ τ [.ref (E.2.2 + 199), .long x1] (gq_v σ1 τ1) := by
  refine gx_bv (by decide +kernel) (Nat.le_of_ble_eq_true rfl) ?_
  intro P9 e9 s m9 below meth C9 S hr hlk hK hw ls hl
  have hl : lv_has ls 3 [(0, .ref (E.2.2 + 199)), (1, .long x1)] := hl
  exact b_X12_enters_0 l S hr hlk hK N σ τ x1 h hw hl
/-! X12_basin -/
def B_X12_basin_89 (N : Nat) (rec_34 : gI → gJ → Int32 → Int32 → Int32 → Int32 → Int32 → Int32 → Int32 → Option (Int32 × gI × gJ)) (σ : gI) (τ : gJ) (x1 : Int32) (x2 : Int32) (x3 : Int32) (x4 : Int32) (x6 : Int32) (x7 : Int32) (y0 : Int32) (y1 : Int32) : Option (Int32 × gI × gJ) := nm (y1 ||| y0) fun v_1 => if σ 224 4 = 2 then (nm (x6 ||| (1 <<< (x7 &&& 31))) fun v_5 => nm (x7 + 1) fun v_6 => rec_34 σ τ x1 x2 x3 x4 v_1 v_5 v_6) else (nm (x6 ||| 0) fun v_3 => nm (x7 + 1) fun v_4 => rec_34 σ τ x1 x2 x3 x4 v_1 v_3 v_4)
def C_X12_basin_34 (N : Nat) (rec_34 : gI → gJ → Int32 → Int32 → Int32 → Int32 → Int32 → Int32 → Int32 → Option (Int32 × gI × gJ)) (σ : gI) (τ : gJ) (x1 : Int32) (x2 : Int32) (x3 : Int32) (x4 : Int32) (x5 : Int32) (x6 : Int32) (x7 : Int32) : Option (Int32 × gI × gJ) := if σ 199 3 ≤ x7 then (nm (up2 σ 199 1 0) fun σ_2 => bd (B_X12_enters_0 N σ_2 τ x5.toInt64) fun _ σ_3 τ_3 => bd (B_X12_enters_0 N σ_3 τ_3 x6.toInt64) fun _ σ_4 τ_4 => some (x4, σ_4, τ_4)) else (bd (B_X12_sails_0 N σ τ x7 x1 x2 0 x3) fun r_5 σ_5 τ_5 => if r_5 < 0 then (nm (x4 ||| 0) fun v_7 => if σ_5 224 4 = 1 then (B_X12_basin_89 N rec_34 σ_5 τ_5 x1 x2 x3 v_7 x6 x7 (1 <<< (x7 &&& 31)) x5) else (B_X12_basin_89 N rec_34 σ_5 τ_5 x1 x2 x3 v_7 x6 x7 0 x5)) else (nm (x4 ||| (1 <<< (x7 &&& 31))) fun v_9 => if σ_5 224 4 = 1 then (B_X12_basin_89 N rec_34 σ_5 τ_5 x1 x2 x3 v_9 x6 x7 (1 <<< (x7 &&& 31)) x5) else (B_X12_basin_89 N rec_34 σ_5 τ_5 x1 x2 x3 v_9 x6 x7 0 x5)))
def H_X12_basin_34 (N : Nat) : Nat → gI → gJ → Int32 → Int32 → Int32 → Int32 → Int32 → Int32 → Int32 → Option (Int32 × gI × gJ) := itn (fun rec_34 => C_X12_basin_34 N rec_34) (fun _ _ _ _ _ _ _ _ _ => none)
def B_X12_basin_0 (N : Nat) (σ : gI) (τ : gJ) (x1 : Int32) (x2 : Int32) (x3 : Int32) : Option (Int32 × gI × gJ) := nm (up2 σ 199 0 0) fun σ_1 => bd (B_X12_canSail_0 N σ_1 τ 0 x1 x2 x3) fun r_2 σ_2 τ_2 => if r_2 = 0 then (some ((-1), σ_2, τ_2)) else (bd (B_X12_thinksNow_0 N σ_2 τ_2) fun _ σ_4 τ_4 => H_X12_basin_34 N N σ_4 τ_4 x1 x2 x3 0 0 0 0)
set_option maxHeartbeats 4000000 in
set_option maxRecDepth 100000 in
theorem b_X12_basin_89 (l : Launch) (S : CallFix P9 m9 C9 cX12_basin 8 s av.toArray gx_G RX12) (hr : meth.sig.returnType = (some .int)) (hlk : meth.locks = false) (hK : gx_K E s) (N : Nat) (rec_34 : gI → gJ → Int32 → Int32 → Int32 → Int32 → Int32 → Int32 → Int32 → Option (Int32 × gI × gJ)) (hrec_34 : ∀ (σ : gI) (τ : gJ) (x1 : Int32) (x2 : Int32) (x3 : Int32) (x4 : Int32) (x5 : Int32) (x6 : Int32) (x7 : Int32) (r : Int32) (σ1 : gI) (τ1 : gJ) (H : Heap) (locs : List Loc) (ls : Array Slot), rec_34 σ τ x1 x2 x3 x4 x5 x6 x7 = some (r, σ1, τ1) → gx_W gx_tb gx_tb.length E s σ τ H locs → lv_has ls 8 [(0, .ref (E.2.2 + 199)), (1, .int x1), (2, .int x2), (3, .int x3), (4, .int x4), (5, .int x5), (6, .int x6), (7, .int x7)] → W P9 l e9 (gx_rm 9) s m9 av.toArray below meth C9 H locs 0 0 (gq_Qi below av s E r σ1 τ1) (F0 m9 34 ls [])) (σ : gI) (τ : gJ) (x1 : Int32) (x2 : Int32) (x3 : Int32) (x4 : Int32) (x6 : Int32) (x7 : Int32) (y0 : Int32) (y1 : Int32) {r : Int32} {σ1 : gI} {τ1 : gJ} (h : B_X12_basin_89 N rec_34 σ τ x1 x2 x3 x4 x6 x7 y0 y1 = some (r, σ1, τ1)) {H : Heap} {locs : List Loc} {ls : Array Slot} (hw : gx_W gx_tb gx_tb.length E s σ τ H locs) (hl : lv_has ls 8 [(0, .ref (E.2.2 + 199)), (1, .int x1), (2, .int x2), (3, .int x3), (4, .int x4), (6, .int x6), (7, .int x7)]) : W P9 l e9 (gx_rm 9) s m9 av.toArray below meth C9 H locs 0 0 (gq_Qi below av s E r σ1 τ1) (F0 m9 89 ls [.int y0, .int y1]) := by
  have hx := S.1
  have hb := S.2.1
  unfold B_X12_basin_89 at h
  refine lv_ior hx hb dX12_basin_89 ?_
  refine lv_istore (lv' := [(5, .int (y1 ||| y0)), (0, .ref (E.2.2 + 199)), (1, .int x1), (2, .int x2), (3, .int x3), (4, .int x4), (6, .int x6), (7, .int x7)]) hx hb dX12_basin_90 hl (by decide) rfl (fun ls hl => ?_)
  obtain ⟨v_1, e_1, h⟩ := nm_some h
  have hl : lv_has ls 8 [(5, .int v_1), (0, .ref (E.2.2 + 199)), (1, .int x1), (2, .int x2), (3, .int x3), (4, .int x4), (6, .int x6), (7, .int x7)] := by rw [e_1]; exact hl
  refine lv_iload hx hb dX12_basin_92 (lv_at hl 6 rfl) ?_
  refine lv_aload_n hx hb dX12_basin_94 rfl (lv_at hl 1 rfl) ?_
  refine gx_getr (j := 224) S hK hw t_199 cl_13 44 (by decide) rfl mw_1458 rfl dX12_basin_95 ?_
  refine lv_iconst (v := 4) hx hb dX12_basin_98 (by decide) ?_
  refine gx_iald S hK hw t_224 4 rfl (gx_in rfl (by decide) (by decide)) dX12_basin_99 ?_
  refine lv_iconst (v := 2) hx hb dX12_basin_100 (by decide) ?_
  refine lv_icmp_ne (tgt := 111) hx hb dX12_basin_101 (by decide) (fun c_2 => ?_) (fun c_2 => ?_)
  · rw [if_neg c_2] at h
    refine lv_iconst (v := 0) hx hb dX12_basin_111 (by decide) ?_
    refine lv_ior hx hb dX12_basin_112 ?_
    refine lv_istore (lv' := [(6, .int (x6 ||| 0)), (5, .int v_1), (0, .ref (E.2.2 + 199)), (1, .int x1), (2, .int x2), (3, .int x3), (4, .int x4), (7, .int x7)]) hx hb dX12_basin_113 hl (by decide) rfl (fun ls hl => ?_)
    obtain ⟨v_3, e_3, h⟩ := nm_some h
    have hl : lv_has ls 8 [(6, .int v_3), (5, .int v_1), (0, .ref (E.2.2 + 199)), (1, .int x1), (2, .int x2), (3, .int x3), (4, .int x4), (7, .int x7)] := by rw [e_3]; exact hl
    refine lv_iinc (v := x7 + 1) (lv' := [(7, .int (x7 + 1)), (6, .int v_3), (5, .int v_1), (0, .ref (E.2.2 + 199)), (1, .int x1), (2, .int x2), (3, .int x3), (4, .int x4)]) hx hb dX12_basin_115 hl (k := 7) rfl rfl (by decide) rfl (fun ls hl => ?_)
    obtain ⟨v_4, e_4, h⟩ := nm_some h
    have hl : lv_has ls 8 [(7, .int v_4), (6, .int v_3), (5, .int v_1), (0, .ref (E.2.2 + 199)), (1, .int x1), (2, .int x2), (3, .int x3), (4, .int x4)] := by rw [e_4]; exact hl
    refine lv_goto (tgt := 34) hx hb dX12_basin_118 (by decide) ?_
    exact hrec_34 σ τ x1 x2 x3 x4 v_1 v_3 v_4 _ _ _ _ _ _ h hw (lv_sub hl [3, 4, 5, 6, 7, 2, 1, 0] rfl)
  · rw [if_pos c_2] at h
    refine lv_iconst (v := 1) hx hb dX12_basin_104 (by decide) ?_
    refine lv_iload hx hb dX12_basin_105 (lv_at hl 7 rfl) ?_
    refine lv_ishl hx hb dX12_basin_107 ?_
    refine lv_goto (tgt := 112) hx hb dX12_basin_108 (by decide) ?_
    refine lv_ior hx hb dX12_basin_112 ?_
    refine lv_istore (lv' := [(6, .int (x6 ||| (1 <<< (x7 &&& 31)))), (5, .int v_1), (0, .ref (E.2.2 + 199)), (1, .int x1), (2, .int x2), (3, .int x3), (4, .int x4), (7, .int x7)]) hx hb dX12_basin_113 hl (by decide) rfl (fun ls hl => ?_)
    obtain ⟨v_5, e_5, h⟩ := nm_some h
    have hl : lv_has ls 8 [(6, .int v_5), (5, .int v_1), (0, .ref (E.2.2 + 199)), (1, .int x1), (2, .int x2), (3, .int x3), (4, .int x4), (7, .int x7)] := by rw [e_5]; exact hl
    refine lv_iinc (v := x7 + 1) (lv' := [(7, .int (x7 + 1)), (6, .int v_5), (5, .int v_1), (0, .ref (E.2.2 + 199)), (1, .int x1), (2, .int x2), (3, .int x3), (4, .int x4)]) hx hb dX12_basin_115 hl (k := 7) rfl rfl (by decide) rfl (fun ls hl => ?_)
    obtain ⟨v_6, e_6, h⟩ := nm_some h
    have hl : lv_has ls 8 [(7, .int v_6), (6, .int v_5), (5, .int v_1), (0, .ref (E.2.2 + 199)), (1, .int x1), (2, .int x2), (3, .int x3), (4, .int x4)] := by rw [e_6]; exact hl
    refine lv_goto (tgt := 34) hx hb dX12_basin_118 (by decide) ?_
    exact hrec_34 σ τ x1 x2 x3 x4 v_1 v_5 v_6 _ _ _ _ _ _ h hw (lv_sub hl [3, 4, 5, 6, 7, 2, 1, 0] rfl)
set_option maxHeartbeats 4000000 in
set_option maxRecDepth 100000 in
theorem k_X12_basin_34 (l : Launch) (S : CallFix P9 m9 C9 cX12_basin 8 s av.toArray gx_G RX12) (hr : meth.sig.returnType = (some .int)) (hlk : meth.locks = false) (hK : gx_K E s) (N : Nat) (rec_34 : gI → gJ → Int32 → Int32 → Int32 → Int32 → Int32 → Int32 → Int32 → Option (Int32 × gI × gJ)) (hrec_34 : ∀ (σ : gI) (τ : gJ) (x1 : Int32) (x2 : Int32) (x3 : Int32) (x4 : Int32) (x5 : Int32) (x6 : Int32) (x7 : Int32) (r : Int32) (σ1 : gI) (τ1 : gJ) (H : Heap) (locs : List Loc) (ls : Array Slot), rec_34 σ τ x1 x2 x3 x4 x5 x6 x7 = some (r, σ1, τ1) → gx_W gx_tb gx_tb.length E s σ τ H locs → lv_has ls 8 [(0, .ref (E.2.2 + 199)), (1, .int x1), (2, .int x2), (3, .int x3), (4, .int x4), (5, .int x5), (6, .int x6), (7, .int x7)] → W P9 l e9 (gx_rm 9) s m9 av.toArray below meth C9 H locs 0 0 (gq_Qi below av s E r σ1 τ1) (F0 m9 34 ls [])) (σ : gI) (τ : gJ) (x1 : Int32) (x2 : Int32) (x3 : Int32) (x4 : Int32) (x5 : Int32) (x6 : Int32) (x7 : Int32) {r : Int32} {σ1 : gI} {τ1 : gJ} (h : C_X12_basin_34 N rec_34 σ τ x1 x2 x3 x4 x5 x6 x7 = some (r, σ1, τ1)) {H : Heap} {locs : List Loc} {ls : Array Slot} (hw : gx_W gx_tb gx_tb.length E s σ τ H locs) (hl : lv_has ls 8 [(0, .ref (E.2.2 + 199)), (1, .int x1), (2, .int x2), (3, .int x3), (4, .int x4), (5, .int x5), (6, .int x6), (7, .int x7)]) : W P9 l e9 (gx_rm 9) s m9 av.toArray below meth C9 H locs 0 0 (gq_Qi below av s E r σ1 τ1) (F0 m9 34 ls []) := by
  have hx := S.1
  have hb := S.2.1
  unfold C_X12_basin_34 at h
  refine lv_iload hx hb dX12_basin_34 (lv_at hl 7 rfl) ?_
  refine lv_aload_n hx hb dX12_basin_36 rfl (lv_at hl 0 rfl) ?_
  refine gx_get S hK hw t_199 cl_13 3 (by decide) rfl mw_1417 rfl dX12_basin_37 ?_
  refine lv_icmp_ge (tgt := 121) hx hb dX12_basin_40 (by decide) (fun c_1 => ?_) (fun c_1 => ?_)
  · rw [if_pos c_1] at h
    refine lv_aload_n hx hb dX12_basin_121 rfl (lv_at hl 0 rfl) ?_
    refine lv_iconst (v := 0) hx hb dX12_basin_122 (by decide) ?_
    refine gx_put S hK gx_ok hw t_199 cl_13 1 (by decide) rfl mw_1415 rfl rfl (ty := .int) (v := 0) (by decide +kernel) rfl rfl dX12_basin_123 (fun H locs hw => ?_)
    obtain ⟨σ_2, e_2, h⟩ := nm_some h
    rw [← e_2] at hw
    refine lv_aload_n hx hb dX12_basin_126 rfl (lv_at hl 0 rfl) ?_
    refine lv_iload hx hb dX12_basin_127 (lv_at hl 5 rfl) ?_
    refine lv_i2l (v := x5.toInt64) hx hb dX12_basin_129 rfl ?_
    obtain ⟨u_3, σ_3, τ_3, q_3, h⟩ := bd_some h
    refine gx_cVv (As := [.long x5.toInt64]) (rest := []) S hK gx_ok hw (c_X12_enters l (E := E) N σ_2 τ x5.toInt64 q_3) cw_X12_122 t_199 cl_13 ⟨Nat.le_of_ble_eq_true rfl, Nat.le_of_ble_eq_true rfl⟩ rfl hl.1 rfl (Nat.le_of_ble_eq_true rfl) ⟨Nat.le_of_ble_eq_true rfl, Nat.le_of_ble_eq_true rfl⟩ dX12_basin_130 (fun σ9 τ9 H locs hp hw => ?_)
    obtain ⟨rfl, rfl⟩ := hp
    refine lv_aload_n hx hb dX12_basin_133 rfl (lv_at hl 0 rfl) ?_
    refine lv_iload hx hb dX12_basin_134 (lv_at hl 6 rfl) ?_
    refine lv_i2l (v := x6.toInt64) hx hb dX12_basin_136 rfl ?_
    obtain ⟨u_4, σ_4, τ_4, q_4, h⟩ := bd_some h
    refine gx_cVv (As := [.long x6.toInt64]) (rest := []) S hK gx_ok hw (c_X12_enters l (E := E) N σ_3 τ_3 x6.toInt64 q_4) cw_X12_122 t_199 cl_13 ⟨Nat.le_of_ble_eq_true rfl, Nat.le_of_ble_eq_true rfl⟩ rfl hl.1 rfl (Nat.le_of_ble_eq_true rfl) ⟨Nat.le_of_ble_eq_true rfl, Nat.le_of_ble_eq_true rfl⟩ dX12_basin_137 (fun σ9 τ9 H locs hp hw => ?_)
    obtain ⟨rfl, rfl⟩ := hp
    refine lv_iload hx hb dX12_basin_140 (lv_at hl 4 rfl) ?_
    obtain ⟨rfl, rfl, rfl⟩ := sm_inj h
    exact gx_ri (post := gq_p x4 σ_4 τ_4) (v := x4) S hr hlk hw rfl dX12_basin_142 ⟨rfl, rfl, rfl⟩
  · rw [if_neg c_1] at h
    refine lv_iload hx hb dX12_basin_43 (lv_at hl 4 rfl) ?_
    refine lv_aload_n hx hb dX12_basin_45 rfl (lv_at hl 0 rfl) ?_
    refine lv_iload hx hb dX12_basin_46 (lv_at hl 7 rfl) ?_
    refine lv_iload_n hx hb dX12_basin_48 rfl (lv_at hl 1 rfl) ?_
    refine lv_iload_n hx hb dX12_basin_49 rfl (lv_at hl 2 rfl) ?_
    refine lv_iconst (v := 0) hx hb dX12_basin_50 (by decide) ?_
    refine lv_iload_n hx hb dX12_basin_51 rfl (lv_at hl 3 rfl) ?_
    obtain ⟨r_5, σ_5, τ_5, q_5, h⟩ := bd_some h
    refine gx_cVi (As := [.int x7, .int x1, .int x2, .int 0, .int x3]) (rest := [.int x4]) S hK gx_ok hw (c_X12_sails l (E := E) N σ τ x7 x1 x2 0 x3 q_5) cw_X12_412 t_199 cl_13 ⟨Nat.le_of_ble_eq_true rfl, Nat.le_of_ble_eq_true rfl⟩ rfl hl.1 rfl (Nat.le_of_ble_eq_true rfl) ⟨Nat.le_of_ble_eq_true rfl, Nat.le_of_ble_eq_true rfl⟩ dX12_basin_52 (fun r9 σ9 τ9 H locs hp hw => ?_)
    obtain ⟨rfl, rfl, rfl⟩ := hp
    refine lv_if_lt (tgt := 65) hx hb dX12_basin_55 (by decide) (fun c_6 => ?_) (fun c_6 => ?_)
    · rw [if_pos c_6] at h
      refine lv_iconst (v := 0) hx hb dX12_basin_65 (by decide) ?_
      refine lv_ior hx hb dX12_basin_66 ?_
      refine lv_istore (lv' := [(4, .int (x4 ||| 0)), (0, .ref (E.2.2 + 199)), (1, .int x1), (2, .int x2), (3, .int x3), (5, .int x5), (6, .int x6), (7, .int x7)]) hx hb dX12_basin_67 hl (by decide) rfl (fun ls hl => ?_)
      obtain ⟨v_7, e_7, h⟩ := nm_some h
      have hl : lv_has ls 8 [(4, .int v_7), (0, .ref (E.2.2 + 199)), (1, .int x1), (2, .int x2), (3, .int x3), (5, .int x5), (6, .int x6), (7, .int x7)] := by rw [e_7]; exact hl
      refine lv_iload hx hb dX12_basin_69 (lv_at hl 5 rfl) ?_
      refine lv_aload_n hx hb dX12_basin_71 rfl (lv_at hl 1 rfl) ?_
      refine gx_getr (j := 224) S hK hw t_199 cl_13 44 (by decide) rfl mw_1458 rfl dX12_basin_72 ?_
      refine lv_iconst (v := 4) hx hb dX12_basin_75 (by decide) ?_
      refine gx_iald S hK hw t_224 4 rfl (gx_in rfl (by decide) (by decide)) dX12_basin_76 ?_
      refine lv_iconst (v := 1) hx hb dX12_basin_77 (by decide) ?_
      refine lv_icmp_ne (tgt := 88) hx hb dX12_basin_78 (by decide) (fun c_8 => ?_) (fun c_8 => ?_)
      · rw [if_neg c_8] at h
        refine lv_iconst (v := 0) hx hb dX12_basin_88 (by decide) ?_
        exact b_X12_basin_89 l S hr hlk hK N rec_34 hrec_34 σ_5 τ_5 x1 x2 x3 v_7 x6 x7 0 x5 h hw (lv_sub hl [1, 2, 3, 4, 0, 6, 7] rfl)
      · rw [if_pos c_8] at h
        refine lv_iconst (v := 1) hx hb dX12_basin_81 (by decide) ?_
        refine lv_iload hx hb dX12_basin_82 (lv_at hl 7 rfl) ?_
        refine lv_ishl hx hb dX12_basin_84 ?_
        refine lv_goto (tgt := 89) hx hb dX12_basin_85 (by decide) ?_
        exact b_X12_basin_89 l S hr hlk hK N rec_34 hrec_34 σ_5 τ_5 x1 x2 x3 v_7 x6 x7 (1 <<< (x7 &&& 31)) x5 h hw (lv_sub hl [1, 2, 3, 4, 0, 6, 7] rfl)
    · rw [if_neg c_6] at h
      refine lv_iconst (v := 1) hx hb dX12_basin_58 (by decide) ?_
      refine lv_iload hx hb dX12_basin_59 (lv_at hl 7 rfl) ?_
      refine lv_ishl hx hb dX12_basin_61 ?_
      refine lv_goto (tgt := 66) hx hb dX12_basin_62 (by decide) ?_
      refine lv_ior hx hb dX12_basin_66 ?_
      refine lv_istore (lv' := [(4, .int (x4 ||| (1 <<< (x7 &&& 31)))), (0, .ref (E.2.2 + 199)), (1, .int x1), (2, .int x2), (3, .int x3), (5, .int x5), (6, .int x6), (7, .int x7)]) hx hb dX12_basin_67 hl (by decide) rfl (fun ls hl => ?_)
      obtain ⟨v_9, e_9, h⟩ := nm_some h
      have hl : lv_has ls 8 [(4, .int v_9), (0, .ref (E.2.2 + 199)), (1, .int x1), (2, .int x2), (3, .int x3), (5, .int x5), (6, .int x6), (7, .int x7)] := by rw [e_9]; exact hl
      refine lv_iload hx hb dX12_basin_69 (lv_at hl 5 rfl) ?_
      refine lv_aload_n hx hb dX12_basin_71 rfl (lv_at hl 1 rfl) ?_
      refine gx_getr (j := 224) S hK hw t_199 cl_13 44 (by decide) rfl mw_1458 rfl dX12_basin_72 ?_
      refine lv_iconst (v := 4) hx hb dX12_basin_75 (by decide) ?_
      refine gx_iald S hK hw t_224 4 rfl (gx_in rfl (by decide) (by decide)) dX12_basin_76 ?_
      refine lv_iconst (v := 1) hx hb dX12_basin_77 (by decide) ?_
      refine lv_icmp_ne (tgt := 88) hx hb dX12_basin_78 (by decide) (fun c_10 => ?_) (fun c_10 => ?_)
      · rw [if_neg c_10] at h
        refine lv_iconst (v := 0) hx hb dX12_basin_88 (by decide) ?_
        exact b_X12_basin_89 l S hr hlk hK N rec_34 hrec_34 σ_5 τ_5 x1 x2 x3 v_9 x6 x7 0 x5 h hw (lv_sub hl [1, 2, 3, 4, 0, 6, 7] rfl)
      · rw [if_pos c_10] at h
        refine lv_iconst (v := 1) hx hb dX12_basin_81 (by decide) ?_
        refine lv_iload hx hb dX12_basin_82 (lv_at hl 7 rfl) ?_
        refine lv_ishl hx hb dX12_basin_84 ?_
        refine lv_goto (tgt := 89) hx hb dX12_basin_85 (by decide) ?_
        exact b_X12_basin_89 l S hr hlk hK N rec_34 hrec_34 σ_5 τ_5 x1 x2 x3 v_9 x6 x7 (1 <<< (x7 &&& 31)) x5 h hw (lv_sub hl [1, 2, 3, 4, 0, 6, 7] rfl)
set_option maxHeartbeats 4000000 in
set_option maxRecDepth 100000 in
theorem h_X12_basin_34 (l : Launch) (S : CallFix P9 m9 C9 cX12_basin 8 s av.toArray gx_G RX12) (hr : meth.sig.returnType = (some .int)) (hlk : meth.locks = false) (hK : gx_K E s) (N : Nat) : ∀ (n : Nat) (σ : gI) (τ : gJ) (x1 : Int32) (x2 : Int32) (x3 : Int32) (x4 : Int32) (x5 : Int32) (x6 : Int32) (x7 : Int32) (r : Int32) (σ1 : gI) (τ1 : gJ), H_X12_basin_34 N n σ τ x1 x2 x3 x4 x5 x6 x7 = some (r, σ1, τ1) → ∀ (H : Heap) (locs : List Loc) (ls : Array Slot), gx_W gx_tb gx_tb.length E s σ τ H locs → lv_has ls 8 [(0, .ref (E.2.2 + 199)), (1, .int x1), (2, .int x2), (3, .int x3), (4, .int x4), (5, .int x5), (6, .int x6), (7, .int x7)] → W P9 l e9 (gx_rm 9) s m9 av.toArray below meth C9 H locs 0 0 (gq_Qi below av s E r σ1 τ1) (F0 m9 34 ls []) := by
  intro n
  induction n with
  | zero => intro σ τ x1 x2 x3 x4 x5 x6 x7 r σ1 τ1 h; cases h
  | succ n ih =>
    intro σ τ x1 x2 x3 x4 x5 x6 x7 r σ1 τ1 h H locs ls hw hl
    exact k_X12_basin_34 l S hr hlk hK N (H_X12_basin_34 N n) (fun σ τ x1 x2 x3 x4 x5 x6 x7 r σ1 τ1 H locs ls h hw hl => ih σ τ x1 x2 x3 x4 x5 x6 x7 r σ1 τ1 h H locs ls hw hl) σ τ x1 x2 x3 x4 x5 x6 x7 h hw hl
set_option maxHeartbeats 4000000 in
set_option maxRecDepth 100000 in
theorem b_X12_basin_0 (l : Launch) (S : CallFix P9 m9 C9 cX12_basin 8 s av.toArray gx_G RX12) (hr : meth.sig.returnType = (some .int)) (hlk : meth.locks = false) (hK : gx_K E s) (N : Nat) (σ : gI) (τ : gJ) (x1 : Int32) (x2 : Int32) (x3 : Int32) {r : Int32} {σ1 : gI} {τ1 : gJ} (h : B_X12_basin_0 N σ τ x1 x2 x3 = some (r, σ1, τ1)) {H : Heap} {locs : List Loc} {ls : Array Slot} (hw : gx_W gx_tb gx_tb.length E s σ τ H locs) (hl : lv_has ls 8 [(0, .ref (E.2.2 + 199)), (1, .int x1), (2, .int x2), (3, .int x3)]) : W P9 l e9 (gx_rm 9) s m9 av.toArray below meth C9 H locs 0 0 (gq_Qi below av s E r σ1 τ1) (F0 m9 0 ls []) := by
  have hx := S.1
  have hb := S.2.1
  unfold B_X12_basin_0 at h
  refine lv_aload_n hx hb dX12_basin_0 rfl (lv_at hl 0 rfl) ?_
  refine lv_iconst (v := 0) hx hb dX12_basin_1 (by decide) ?_
  refine gx_put S hK gx_ok hw t_199 cl_13 0 (by decide) rfl mw_1414 rfl rfl (ty := .int) (v := 0) (by decide +kernel) rfl rfl dX12_basin_2 (fun H locs hw => ?_)
  obtain ⟨σ_1, e_1, h⟩ := nm_some h
  rw [← e_1] at hw
  refine lv_aload_n hx hb dX12_basin_5 rfl (lv_at hl 0 rfl) ?_
  refine lv_iconst (v := 0) hx hb dX12_basin_6 (by decide) ?_
  refine lv_iload_n hx hb dX12_basin_7 rfl (lv_at hl 1 rfl) ?_
  refine lv_iload_n hx hb dX12_basin_8 rfl (lv_at hl 2 rfl) ?_
  refine lv_iload_n hx hb dX12_basin_9 rfl (lv_at hl 3 rfl) ?_
  obtain ⟨r_2, σ_2, τ_2, q_2, h⟩ := bd_some h
  refine gx_cVi (As := [.int 0, .int x1, .int x2, .int x3]) (rest := []) S hK gx_ok hw (c_X12_canSail l (E := E) N σ_1 τ 0 x1 x2 x3 q_2) cw_X12_405 t_199 cl_13 ⟨Nat.le_of_ble_eq_true rfl, Nat.le_of_ble_eq_true rfl⟩ rfl hl.1 rfl (Nat.le_of_ble_eq_true rfl) ⟨Nat.le_of_ble_eq_true rfl, Nat.le_of_ble_eq_true rfl⟩ dX12_basin_10 (fun r9 σ9 τ9 H locs hp hw => ?_)
  obtain ⟨rfl, rfl, rfl⟩ := hp
  refine lv_if_ne (tgt := 18) hx hb dX12_basin_13 (by decide) (fun c_3 => ?_) (fun c_3 => ?_)
  · rw [if_neg c_3] at h
    refine lv_aload_n hx hb dX12_basin_18 rfl (lv_at hl 0 rfl) ?_
    obtain ⟨u_4, σ_4, τ_4, q_4, h⟩ := bd_some h
    refine gx_cVv (As := []) (rest := []) S hK gx_ok hw (c_X12_thinksNow l (E := E) N σ_2 τ_2 q_4) cw_X12_409 t_199 cl_13 ⟨Nat.le_of_ble_eq_true rfl, Nat.le_of_ble_eq_true rfl⟩ rfl hl.1 rfl (Nat.le_of_ble_eq_true rfl) ⟨Nat.le_of_ble_eq_true rfl, Nat.le_of_ble_eq_true rfl⟩ dX12_basin_19 (fun σ9 τ9 H locs hp hw => ?_)
    obtain ⟨rfl, rfl⟩ := hp
    refine lv_iconst (v := 0) hx hb dX12_basin_22 (by decide) ?_
    refine lv_istore (lv' := [(4, .int 0), (0, .ref (E.2.2 + 199)), (1, .int x1), (2, .int x2), (3, .int x3)]) hx hb dX12_basin_23 hl (by decide) rfl (fun ls hl => ?_)
    refine lv_iconst (v := 0) hx hb dX12_basin_25 (by decide) ?_
    refine lv_istore (lv' := [(5, .int 0), (4, .int 0), (0, .ref (E.2.2 + 199)), (1, .int x1), (2, .int x2), (3, .int x3)]) hx hb dX12_basin_26 hl (by decide) rfl (fun ls hl => ?_)
    refine lv_iconst (v := 0) hx hb dX12_basin_28 (by decide) ?_
    refine lv_istore (lv' := [(6, .int 0), (5, .int 0), (4, .int 0), (0, .ref (E.2.2 + 199)), (1, .int x1), (2, .int x2), (3, .int x3)]) hx hb dX12_basin_29 hl (by decide) rfl (fun ls hl => ?_)
    refine lv_iconst (v := 0) hx hb dX12_basin_31 (by decide) ?_
    refine lv_istore (lv' := [(7, .int 0), (6, .int 0), (5, .int 0), (4, .int 0), (0, .ref (E.2.2 + 199)), (1, .int x1), (2, .int x2), (3, .int x3)]) hx hb dX12_basin_32 hl (by decide) rfl (fun ls hl => ?_)
    exact h_X12_basin_34 l S hr hlk hK N N σ_4 τ_4 x1 x2 x3 0 0 0 0 _ _ _ h _ _ _ hw (lv_sub hl [4, 5, 6, 7, 3, 2, 1, 0] rfl)
  · rw [if_pos c_3] at h
    refine lv_iconst (v := (-1)) hx hb dX12_basin_16 (by decide) ?_
    obtain ⟨rfl, rfl, rfl⟩ := sm_inj h
    exact gx_ri (post := gq_p (-1) σ_2 τ_2) (v := (-1)) S hr hlk hw rfl dX12_basin_17 ⟨rfl, rfl, rfl⟩
set_option maxHeartbeats 4000000 in
set_option maxRecDepth 100000 in
theorem c_X12_basin (l : Launch) {E : gE} (N : Nat) (σ : gI) (τ : gJ) (x1 : Int32) (x2 : Int32) (x3 : Int32) {r : Int32} {σ1 : gI} {τ1 : gJ} (h : B_X12_basin_0 N σ τ x1 x2 x3 = some (r, σ1, τ1)) : gx_Mi l yX12_basin cX12_basin 8 (some .int) 9 gx_tb E σ τ [.ref (E.2.2 + 199), .int x1, .int x2, .int x3] (gq_p r σ1 τ1) := by
  refine gx_bi (by decide +kernel) (Nat.le_of_ble_eq_true rfl) ?_
  intro P9 e9 s m9 below meth C9 S hr hlk hK hw ls hl
  have hl : lv_has ls 8 [(0, .ref (E.2.2 + 199)), (1, .int x1), (2, .int x2), (3, .int x3)] := hl
  exact b_X12_basin_0 l S hr hlk hK N σ τ x1 x2 x3 h hw hl
/-! X12_begins -/
def B_X12_begins_0 (N : Nat) (σ : gI) (τ : gJ) (x1 : Int32) : Option (Int32 × gI × gJ) := nm (σ 199 13) fun v_1 => nm (up2 σ 199 13 0) fun σ_2 => nm (up2 σ_2 199 14 0) fun σ_3 => nm (up2 σ_3 199 16 0) fun σ_4 => nm (up2 σ_4 199 15 (imin v_1 x1)) fun σ_5 => some (v_1, σ_5, τ)
set_option maxHeartbeats 4000000 in
set_option maxRecDepth 100000 in
theorem b_X12_begins_0 (l : Launch) (S : CallFix P9 m9 C9 cX12_begins 3 s av.toArray gx_G RX12) (hr : meth.sig.returnType = (some .int)) (hlk : meth.locks = false) (hK : gx_K E s) (N : Nat) (σ : gI) (τ : gJ) (x1 : Int32) {r : Int32} {σ1 : gI} {τ1 : gJ} (h : B_X12_begins_0 N σ τ x1 = some (r, σ1, τ1)) {H : Heap} {locs : List Loc} {ls : Array Slot} (hw : gx_W gx_tb gx_tb.length E s σ τ H locs) (hl : lv_has ls 3 [(0, .ref (E.2.2 + 199)), (1, .int x1)]) : W P9 l e9 (gx_rm 1) s m9 av.toArray below meth C9 H locs 0 0 (gq_Qi below av s E r σ1 τ1) (F0 m9 0 ls []) := by
  have hx := S.1
  have hb := S.2.1
  unfold B_X12_begins_0 at h
  refine lv_aload_n hx hb dX12_begins_0 rfl (lv_at hl 0 rfl) ?_
  refine gx_get S hK hw t_199 cl_13 13 (by decide) rfl mw_1427 rfl dX12_begins_1 ?_
  refine lv_istore_n (lv' := [(2, .int (σ 199 13)), (0, .ref (E.2.2 + 199)), (1, .int x1)]) hx hb dX12_begins_4 rfl hl (by decide) rfl (fun ls hl => ?_)
  obtain ⟨v_1, e_1, h⟩ := nm_some h
  have hl : lv_has ls 3 [(2, .int v_1), (0, .ref (E.2.2 + 199)), (1, .int x1)] := by rw [e_1]; exact hl
  refine lv_aload_n hx hb dX12_begins_5 rfl (lv_at hl 1 rfl) ?_
  refine lv_iconst (v := 0) hx hb dX12_begins_6 (by decide) ?_
  refine gx_put S hK gx_ok hw t_199 cl_13 13 (by decide) rfl mw_1427 rfl rfl (ty := .int) (v := 0) (by decide +kernel) rfl rfl dX12_begins_7 (fun H locs hw => ?_)
  obtain ⟨σ_2, e_2, h⟩ := nm_some h
  rw [← e_2] at hw
  refine lv_aload_n hx hb dX12_begins_10 rfl (lv_at hl 1 rfl) ?_
  refine lv_iconst (v := 0) hx hb dX12_begins_11 (by decide) ?_
  refine gx_put S hK gx_ok hw t_199 cl_13 14 (by decide) rfl mw_1428 rfl rfl (ty := .int) (v := 0) (by decide +kernel) rfl rfl dX12_begins_12 (fun H locs hw => ?_)
  obtain ⟨σ_3, e_3, h⟩ := nm_some h
  rw [← e_3] at hw
  refine lv_aload_n hx hb dX12_begins_15 rfl (lv_at hl 1 rfl) ?_
  refine lv_iconst (v := 0) hx hb dX12_begins_16 (by decide) ?_
  refine gx_put S hK gx_ok hw t_199 cl_13 16 (by decide) rfl mw_1430 rfl rfl (ty := .int) (v := 0) (by decide +kernel) rfl rfl dX12_begins_17 (fun H locs hw => ?_)
  obtain ⟨σ_4, e_4, h⟩ := nm_some h
  rw [← e_4] at hw
  refine lv_aload_n hx hb dX12_begins_20 rfl (lv_at hl 1 rfl) ?_
  refine lv_iload_n hx hb dX12_begins_21 rfl (lv_at hl 0 rfl) ?_
  refine lv_iload_n hx hb dX12_begins_22 rfl (lv_at hl 2 rfl) ?_
  refine gx_min (w := imin v_1 x1) S hl.1 mw_1614 mw_529 mw_102 mw_530 ⟨Nat.le_of_ble_eq_true rfl, Nat.le_of_ble_eq_true rfl⟩ ⟨Nat.le_of_ble_eq_true rfl, Nat.le_of_ble_eq_true rfl⟩ dX12_begins_23 rfl ?_
  refine gx_put S hK gx_ok hw t_199 cl_13 15 (by decide) rfl mw_1429 rfl rfl (ty := .int) (v := imin v_1 x1) (by decide +kernel) rfl rfl dX12_begins_26 (fun H locs hw => ?_)
  obtain ⟨σ_5, e_5, h⟩ := nm_some h
  rw [← e_5] at hw
  refine lv_iload_n hx hb dX12_begins_29 rfl (lv_at hl 0 rfl) ?_
  obtain ⟨rfl, rfl, rfl⟩ := sm_inj h
  exact gx_ri (post := gq_p v_1 σ_5 τ) (v := v_1) S hr hlk hw rfl dX12_begins_30 ⟨rfl, rfl, rfl⟩
set_option maxHeartbeats 4000000 in
set_option maxRecDepth 100000 in
theorem c_X12_begins (l : Launch) {E : gE} (N : Nat) (σ : gI) (τ : gJ) (x1 : Int32) {r : Int32} {σ1 : gI} {τ1 : gJ} (h : B_X12_begins_0 N σ τ x1 = some (r, σ1, τ1)) : gx_Mi l yX12_begins cX12_begins 3 (some .int) 1 gx_tb E σ τ [.ref (E.2.2 + 199), .int x1] (gq_p r σ1 τ1) := by
  refine gx_bi (by decide +kernel) (Nat.le_of_ble_eq_true rfl) ?_
  intro P9 e9 s m9 below meth C9 S hr hlk hK hw ls hl
  have hl : lv_has ls 3 [(0, .ref (E.2.2 + 199)), (1, .int x1)] := hl
  exact b_X12_begins_0 l S hr hlk hK N σ τ x1 h hw hl
/-! X12_boat -/
def C_X12_boat_25 (N : Nat) (rec_25 : gI → gJ → Int32 → Int32 → Int32 → Int32 → Option (Int32 × gI × gJ)) (σ : gI) (τ : gJ) (x1 : Int32) (x2 : Int32) (x3 : Int32) (x4 : Int32) : Option (Int32 × gI × gJ) := if 99 < x4 then (some ((-2), σ, τ)) else (bd (B_X12_sails_0 N σ τ x1 x4 x2 0 x3) fun r_2 σ_2 τ_2 => if r_2 < 0 then (nm (x4 + 1) fun v_4 => rec_25 σ_2 τ_2 x1 x2 x3 v_4) else (nm (up2 σ_2 199 1 0) fun σ_5 => bd (B_X12_enters_0 N σ_5 τ_2 r_2.toInt64) fun _ σ_6 τ_6 => some (x4, σ_6, τ_6)))
def H_X12_boat_25 (N : Nat) : Nat → gI → gJ → Int32 → Int32 → Int32 → Int32 → Option (Int32 × gI × gJ) := itn (fun rec_25 => C_X12_boat_25 N rec_25) (fun _ _ _ _ _ _ => none)
def B_X12_boat_0 (N : Nat) (σ : gI) (τ : gJ) (x1 : Int32) (x2 : Int32) (x3 : Int32) : Option (Int32 × gI × gJ) := nm (up2 σ 199 0 0) fun σ_1 => bd (B_X12_canSail_0 N σ_1 τ x1 0 x2 x3) fun r_2 σ_2 τ_2 => if r_2 = 0 then (some ((-1), σ_2, τ_2)) else (bd (B_X12_thinksNow_0 N σ_2 τ_2) fun _ σ_4 τ_4 => H_X12_boat_25 N N σ_4 τ_4 x1 x2 x3 0)
set_option maxHeartbeats 4000000 in
set_option maxRecDepth 100000 in
theorem k_X12_boat_25 (l : Launch) (S : CallFix P9 m9 C9 cX12_boat 6 s av.toArray gx_G RX12) (hr : meth.sig.returnType = (some .int)) (hlk : meth.locks = false) (hK : gx_K E s) (N : Nat) (rec_25 : gI → gJ → Int32 → Int32 → Int32 → Int32 → Option (Int32 × gI × gJ)) (hrec_25 : ∀ (σ : gI) (τ : gJ) (x1 : Int32) (x2 : Int32) (x3 : Int32) (x4 : Int32) (r : Int32) (σ1 : gI) (τ1 : gJ) (H : Heap) (locs : List Loc) (ls : Array Slot), rec_25 σ τ x1 x2 x3 x4 = some (r, σ1, τ1) → gx_W gx_tb gx_tb.length E s σ τ H locs → lv_has ls 6 [(0, .ref (E.2.2 + 199)), (1, .int x1), (2, .int x2), (3, .int x3), (4, .int x4)] → W P9 l e9 (gx_rm 9) s m9 av.toArray below meth C9 H locs 0 0 (gq_Qi below av s E r σ1 τ1) (F0 m9 25 ls [])) (σ : gI) (τ : gJ) (x1 : Int32) (x2 : Int32) (x3 : Int32) (x4 : Int32) {r : Int32} {σ1 : gI} {τ1 : gJ} (h : C_X12_boat_25 N rec_25 σ τ x1 x2 x3 x4 = some (r, σ1, τ1)) {H : Heap} {locs : List Loc} {ls : Array Slot} (hw : gx_W gx_tb gx_tb.length E s σ τ H locs) (hl : lv_has ls 6 [(0, .ref (E.2.2 + 199)), (1, .int x1), (2, .int x2), (3, .int x3), (4, .int x4)]) : W P9 l e9 (gx_rm 9) s m9 av.toArray below meth C9 H locs 0 0 (gq_Qi below av s E r σ1 τ1) (F0 m9 25 ls []) := by
  have hx := S.1
  have hb := S.2.1
  unfold C_X12_boat_25 at h
  refine lv_iload hx hb dX12_boat_25 (lv_at hl 4 rfl) ?_
  refine lv_bipush (v := 99) hx hb dX12_boat_27 (by decide) ?_
  refine lv_icmp_gt (tgt := 70) hx hb dX12_boat_29 (by decide) (fun c_1 => ?_) (fun c_1 => ?_)
  · rw [if_pos c_1] at h
    refine lv_bipush (v := (-2)) hx hb dX12_boat_70 (by decide) ?_
    obtain ⟨rfl, rfl, rfl⟩ := sm_inj h
    exact gx_ri (post := gq_p (-2) σ τ) (v := (-2)) S hr hlk hw rfl dX12_boat_72 ⟨rfl, rfl, rfl⟩
  · rw [if_neg c_1] at h
    refine lv_aload_n hx hb dX12_boat_32 rfl (lv_at hl 0 rfl) ?_
    refine lv_iload_n hx hb dX12_boat_33 rfl (lv_at hl 1 rfl) ?_
    refine lv_iload hx hb dX12_boat_34 (lv_at hl 4 rfl) ?_
    refine lv_iload_n hx hb dX12_boat_36 rfl (lv_at hl 2 rfl) ?_
    refine lv_iconst (v := 0) hx hb dX12_boat_37 (by decide) ?_
    refine lv_iload_n hx hb dX12_boat_38 rfl (lv_at hl 3 rfl) ?_
    obtain ⟨r_2, σ_2, τ_2, q_2, h⟩ := bd_some h
    refine gx_cVi (As := [.int x1, .int x4, .int x2, .int 0, .int x3]) (rest := []) S hK gx_ok hw (c_X12_sails l (E := E) N σ τ x1 x4 x2 0 x3 q_2) cw_X12_412 t_199 cl_13 ⟨Nat.le_of_ble_eq_true rfl, Nat.le_of_ble_eq_true rfl⟩ rfl hl.1 rfl (Nat.le_of_ble_eq_true rfl) ⟨Nat.le_of_ble_eq_true rfl, Nat.le_of_ble_eq_true rfl⟩ dX12_boat_39 (fun r9 σ9 τ9 H locs hp hw => ?_)
    obtain ⟨rfl, rfl, rfl⟩ := hp
    refine lv_istore (lv' := [(5, .int r_2), (0, .ref (E.2.2 + 199)), (1, .int x1), (2, .int x2), (3, .int x3), (4, .int x4)]) hx hb dX12_boat_42 hl (by decide) rfl (fun ls hl => ?_)
    refine lv_iload hx hb dX12_boat_44 (lv_at hl 0 rfl) ?_
    refine lv_if_lt (tgt := 64) hx hb dX12_boat_46 (by decide) (fun c_3 => ?_) (fun c_3 => ?_)
    · rw [if_pos c_3] at h
      refine lv_iinc (v := x4 + 1) (lv' := [(4, .int (x4 + 1)), (5, .int r_2), (0, .ref (E.2.2 + 199)), (1, .int x1), (2, .int x2), (3, .int x3)]) hx hb dX12_boat_64 hl (k := 5) rfl rfl (by decide) rfl (fun ls hl => ?_)
      obtain ⟨v_4, e_4, h⟩ := nm_some h
      have hl : lv_has ls 6 [(4, .int v_4), (5, .int r_2), (0, .ref (E.2.2 + 199)), (1, .int x1), (2, .int x2), (3, .int x3)] := by rw [e_4]; exact hl
      refine lv_goto (tgt := 25) hx hb dX12_boat_67 (by decide) ?_
      exact hrec_25 σ_2 τ_2 x1 x2 x3 v_4 _ _ _ _ _ _ h hw (lv_sub hl [2, 3, 4, 5, 0] rfl)
    · rw [if_neg c_3] at h
      refine lv_aload_n hx hb dX12_boat_49 rfl (lv_at hl 1 rfl) ?_
      refine lv_iconst (v := 0) hx hb dX12_boat_50 (by decide) ?_
      refine gx_put S hK gx_ok hw t_199 cl_13 1 (by decide) rfl mw_1415 rfl rfl (ty := .int) (v := 0) (by decide +kernel) rfl rfl dX12_boat_51 (fun H locs hw => ?_)
      obtain ⟨σ_5, e_5, h⟩ := nm_some h
      rw [← e_5] at hw
      refine lv_aload_n hx hb dX12_boat_54 rfl (lv_at hl 1 rfl) ?_
      refine lv_iload hx hb dX12_boat_55 (lv_at hl 0 rfl) ?_
      refine lv_i2l (v := r_2.toInt64) hx hb dX12_boat_57 rfl ?_
      obtain ⟨u_6, σ_6, τ_6, q_6, h⟩ := bd_some h
      refine gx_cVv (As := [.long r_2.toInt64]) (rest := []) S hK gx_ok hw (c_X12_enters l (E := E) N σ_5 τ_2 r_2.toInt64 q_6) cw_X12_122 t_199 cl_13 ⟨Nat.le_of_ble_eq_true rfl, Nat.le_of_ble_eq_true rfl⟩ rfl hl.1 rfl (Nat.le_of_ble_eq_true rfl) ⟨Nat.le_of_ble_eq_true rfl, Nat.le_of_ble_eq_true rfl⟩ dX12_boat_58 (fun σ9 τ9 H locs hp hw => ?_)
      obtain ⟨rfl, rfl⟩ := hp
      refine lv_iload hx hb dX12_boat_61 (lv_at hl 5 rfl) ?_
      obtain ⟨rfl, rfl, rfl⟩ := sm_inj h
      exact gx_ri (post := gq_p x4 σ_6 τ_6) (v := x4) S hr hlk hw rfl dX12_boat_63 ⟨rfl, rfl, rfl⟩
set_option maxHeartbeats 4000000 in
set_option maxRecDepth 100000 in
theorem h_X12_boat_25 (l : Launch) (S : CallFix P9 m9 C9 cX12_boat 6 s av.toArray gx_G RX12) (hr : meth.sig.returnType = (some .int)) (hlk : meth.locks = false) (hK : gx_K E s) (N : Nat) : ∀ (n : Nat) (σ : gI) (τ : gJ) (x1 : Int32) (x2 : Int32) (x3 : Int32) (x4 : Int32) (r : Int32) (σ1 : gI) (τ1 : gJ), H_X12_boat_25 N n σ τ x1 x2 x3 x4 = some (r, σ1, τ1) → ∀ (H : Heap) (locs : List Loc) (ls : Array Slot), gx_W gx_tb gx_tb.length E s σ τ H locs → lv_has ls 6 [(0, .ref (E.2.2 + 199)), (1, .int x1), (2, .int x2), (3, .int x3), (4, .int x4)] → W P9 l e9 (gx_rm 9) s m9 av.toArray below meth C9 H locs 0 0 (gq_Qi below av s E r σ1 τ1) (F0 m9 25 ls []) := by
  intro n
  induction n with
  | zero => intro σ τ x1 x2 x3 x4 r σ1 τ1 h; cases h
  | succ n ih =>
    intro σ τ x1 x2 x3 x4 r σ1 τ1 h H locs ls hw hl
    exact k_X12_boat_25 l S hr hlk hK N (H_X12_boat_25 N n) (fun σ τ x1 x2 x3 x4 r σ1 τ1 H locs ls h hw hl => ih σ τ x1 x2 x3 x4 r σ1 τ1 h H locs ls hw hl) σ τ x1 x2 x3 x4 h hw hl
set_option maxHeartbeats 4000000 in
set_option maxRecDepth 100000 in
theorem b_X12_boat_0 (l : Launch) (S : CallFix P9 m9 C9 cX12_boat 6 s av.toArray gx_G RX12) (hr : meth.sig.returnType = (some .int)) (hlk : meth.locks = false) (hK : gx_K E s) (N : Nat) (σ : gI) (τ : gJ) (x1 : Int32) (x2 : Int32) (x3 : Int32) {r : Int32} {σ1 : gI} {τ1 : gJ} (h : B_X12_boat_0 N σ τ x1 x2 x3 = some (r, σ1, τ1)) {H : Heap} {locs : List Loc} {ls : Array Slot} (hw : gx_W gx_tb gx_tb.length E s σ τ H locs) (hl : lv_has ls 6 [(0, .ref (E.2.2 + 199)), (1, .int x1), (2, .int x2), (3, .int x3)]) : W P9 l e9 (gx_rm 9) s m9 av.toArray below meth C9 H locs 0 0 (gq_Qi below av s E r σ1 τ1) (F0 m9 0 ls []) := by
  have hx := S.1
  have hb := S.2.1
  unfold B_X12_boat_0 at h
  refine lv_aload_n hx hb dX12_boat_0 rfl (lv_at hl 0 rfl) ?_
  refine lv_iconst (v := 0) hx hb dX12_boat_1 (by decide) ?_
  refine gx_put S hK gx_ok hw t_199 cl_13 0 (by decide) rfl mw_1414 rfl rfl (ty := .int) (v := 0) (by decide +kernel) rfl rfl dX12_boat_2 (fun H locs hw => ?_)
  obtain ⟨σ_1, e_1, h⟩ := nm_some h
  rw [← e_1] at hw
  refine lv_aload_n hx hb dX12_boat_5 rfl (lv_at hl 0 rfl) ?_
  refine lv_iload_n hx hb dX12_boat_6 rfl (lv_at hl 1 rfl) ?_
  refine lv_iconst (v := 0) hx hb dX12_boat_7 (by decide) ?_
  refine lv_iload_n hx hb dX12_boat_8 rfl (lv_at hl 2 rfl) ?_
  refine lv_iload_n hx hb dX12_boat_9 rfl (lv_at hl 3 rfl) ?_
  obtain ⟨r_2, σ_2, τ_2, q_2, h⟩ := bd_some h
  refine gx_cVi (As := [.int x1, .int 0, .int x2, .int x3]) (rest := []) S hK gx_ok hw (c_X12_canSail l (E := E) N σ_1 τ x1 0 x2 x3 q_2) cw_X12_405 t_199 cl_13 ⟨Nat.le_of_ble_eq_true rfl, Nat.le_of_ble_eq_true rfl⟩ rfl hl.1 rfl (Nat.le_of_ble_eq_true rfl) ⟨Nat.le_of_ble_eq_true rfl, Nat.le_of_ble_eq_true rfl⟩ dX12_boat_10 (fun r9 σ9 τ9 H locs hp hw => ?_)
  obtain ⟨rfl, rfl, rfl⟩ := hp
  refine lv_if_ne (tgt := 18) hx hb dX12_boat_13 (by decide) (fun c_3 => ?_) (fun c_3 => ?_)
  · rw [if_neg c_3] at h
    refine lv_aload_n hx hb dX12_boat_18 rfl (lv_at hl 0 rfl) ?_
    obtain ⟨u_4, σ_4, τ_4, q_4, h⟩ := bd_some h
    refine gx_cVv (As := []) (rest := []) S hK gx_ok hw (c_X12_thinksNow l (E := E) N σ_2 τ_2 q_4) cw_X12_409 t_199 cl_13 ⟨Nat.le_of_ble_eq_true rfl, Nat.le_of_ble_eq_true rfl⟩ rfl hl.1 rfl (Nat.le_of_ble_eq_true rfl) ⟨Nat.le_of_ble_eq_true rfl, Nat.le_of_ble_eq_true rfl⟩ dX12_boat_19 (fun σ9 τ9 H locs hp hw => ?_)
    obtain ⟨rfl, rfl⟩ := hp
    refine lv_iconst (v := 0) hx hb dX12_boat_22 (by decide) ?_
    refine lv_istore (lv' := [(4, .int 0), (0, .ref (E.2.2 + 199)), (1, .int x1), (2, .int x2), (3, .int x3)]) hx hb dX12_boat_23 hl (by decide) rfl (fun ls hl => ?_)
    exact h_X12_boat_25 l S hr hlk hK N N σ_4 τ_4 x1 x2 x3 0 _ _ _ h _ _ _ hw (lv_sub hl [1, 2, 3, 4, 0] rfl)
  · rw [if_pos c_3] at h
    refine lv_iconst (v := (-1)) hx hb dX12_boat_16 (by decide) ?_
    obtain ⟨rfl, rfl, rfl⟩ := sm_inj h
    exact gx_ri (post := gq_p (-1) σ_2 τ_2) (v := (-1)) S hr hlk hw rfl dX12_boat_17 ⟨rfl, rfl, rfl⟩
set_option maxHeartbeats 4000000 in
set_option maxRecDepth 100000 in
theorem c_X12_boat (l : Launch) {E : gE} (N : Nat) (σ : gI) (τ : gJ) (x1 : Int32) (x2 : Int32) (x3 : Int32) {r : Int32} {σ1 : gI} {τ1 : gJ} (h : B_X12_boat_0 N σ τ x1 x2 x3 = some (r, σ1, τ1)) : gx_Mi l yX12_boat cX12_boat 6 (some .int) 9 gx_tb E σ τ [.ref (E.2.2 + 199), .int x1, .int x2, .int x3] (gq_p r σ1 τ1) := by
  refine gx_bi (by decide +kernel) (Nat.le_of_ble_eq_true rfl) ?_
  intro P9 e9 s m9 below meth C9 S hr hlk hK hw ls hl
  have hl : lv_has ls 6 [(0, .ref (E.2.2 + 199)), (1, .int x1), (2, .int x2), (3, .int x3)] := hl
  exact b_X12_boat_0 l S hr hlk hK N σ τ x1 x2 x3 h hw hl
/-! X12_codes -/
def B_X12_codes_0 (N : Nat) (σ : gI) (τ : gJ) (x1 : Int32) : Option (Unit × gI × gJ) := ck (σ 199 29) 80 fun j_1 => nm (up2 σ 217 j_1 x1) fun σ_2 => nm (up2 σ_2 199 29 ((σ_2 199 29) + 1)) fun σ_3 => some ((), σ_3, τ)
set_option maxHeartbeats 4000000 in
set_option maxRecDepth 100000 in
theorem b_X12_codes_0 (l : Launch) (S : CallFix P9 m9 C9 cX12_codes 2 s av.toArray gx_G RX12) (hr : meth.sig.returnType = none) (hlk : meth.locks = false) (hK : gx_K E s) (N : Nat) (σ : gI) (τ : gJ) (x1 : Int32) {r : Unit} {σ1 : gI} {τ1 : gJ} (h : B_X12_codes_0 N σ τ x1 = some (r, σ1, τ1)) {H : Heap} {locs : List Loc} {ls : Array Slot} (hw : gx_W gx_tb gx_tb.length E s σ τ H locs) (hl : lv_has ls 2 [(0, .ref (E.2.2 + 199)), (1, .int x1)]) : W P9 l e9 (gx_rm 0) s m9 av.toArray below meth C9 H locs 0 0 (gq_Qv below av s E σ1 τ1) (F0 m9 0 ls []) := by
  have hx := S.1
  have hb := S.2.1
  unfold B_X12_codes_0 at h
  refine lv_aload_n hx hb dX12_codes_0 rfl (lv_at hl 0 rfl) ?_
  refine gx_getr (j := 217) S hK hw t_199 cl_13 27 (by decide) rfl mw_1441 rfl dX12_codes_1 ?_
  refine lv_aload_n hx hb dX12_codes_4 rfl (lv_at hl 0 rfl) ?_
  refine gx_get S hK hw t_199 cl_13 29 (by decide) rfl mw_1443 rfl dX12_codes_5 ?_
  refine lv_iload_n hx hb dX12_codes_8 rfl (lv_at hl 1 rfl) ?_
  obtain ⟨j_1, hj_1, hi_1, h⟩ := ck_some h
  refine gx_iast S hK gx_ok hw t_217 j_1 hj_1 hi_1 dX12_codes_9 (fun H locs hw => ?_)
  obtain ⟨σ_2, e_2, h⟩ := nm_some h
  rw [← e_2] at hw
  refine lv_aload_n hx hb dX12_codes_10 rfl (lv_at hl 0 rfl) ?_
  refine lv_dup hx hb dX12_codes_11 rfl ?_
  refine gx_get S hK hw t_199 cl_13 29 (by decide) rfl mw_1443 rfl dX12_codes_12 ?_
  refine lv_iconst (v := 1) hx hb dX12_codes_15 (by decide) ?_
  refine lv_iadd hx hb dX12_codes_16 ?_
  refine gx_put S hK gx_ok hw t_199 cl_13 29 (by decide) rfl mw_1443 rfl rfl (ty := .int) (v := (σ_2 199 29) + 1) (by decide +kernel) rfl rfl dX12_codes_17 (fun H locs hw => ?_)
  obtain ⟨σ_3, e_3, h⟩ := nm_some h
  rw [← e_3] at hw
  obtain ⟨-, rfl, rfl⟩ := sm_inj h
  exact gx_rv (post := gq_v σ_3 τ) S hr hlk hw dX12_codes_20 ⟨rfl, rfl⟩
set_option maxHeartbeats 4000000 in
set_option maxRecDepth 100000 in
theorem c_X12_codes (l : Launch) {E : gE} (N : Nat) (σ : gI) (τ : gJ) (x1 : Int32) {r : Unit} {σ1 : gI} {τ1 : gJ} (h : B_X12_codes_0 N σ τ x1 = some (r, σ1, τ1)) : gx_Mv l yX12_codes cX12_codes 2 none 0 gx_tb E σ τ [.ref (E.2.2 + 199), .int x1] (gq_v σ1 τ1) := by
  refine gx_bv (by decide +kernel) (Nat.le_of_ble_eq_true rfl) ?_
  intro P9 e9 s m9 below meth C9 S hr hlk hK hw ls hl
  have hl : lv_has ls 2 [(0, .ref (E.2.2 + 199)), (1, .int x1)] := hl
  exact b_X12_codes_0 l S hr hlk hK N σ τ x1 h hw hl
/-! X12_coins -/
def C_X12_coins_25 (N : Nat) (rec_25 : gI → gJ → Int32 → Int32 → Int32 → Int32 → Option (Int32 × gI × gJ)) (σ : gI) (τ : gJ) (x1 : Int32) (x2 : Int32) (x3 : Int32) (x4 : Int32) : Option (Int32 × gI × gJ) := if 9 < x4 then (some ((-2), σ, τ)) else (bd (B_X12_sails_0 N σ τ x1 x2 x4 0 x3) fun r_2 σ_2 τ_2 => if r_2 < 0 then (nm (x4 + 1) fun v_4 => rec_25 σ_2 τ_2 x1 x2 x3 v_4) else (nm (up2 σ_2 199 1 0) fun σ_5 => bd (B_X12_enters_0 N σ_5 τ_2 r_2.toInt64) fun _ σ_6 τ_6 => some (x4, σ_6, τ_6)))
def H_X12_coins_25 (N : Nat) : Nat → gI → gJ → Int32 → Int32 → Int32 → Int32 → Option (Int32 × gI × gJ) := itn (fun rec_25 => C_X12_coins_25 N rec_25) (fun _ _ _ _ _ _ => none)
def B_X12_coins_0 (N : Nat) (σ : gI) (τ : gJ) (x1 : Int32) (x2 : Int32) (x3 : Int32) : Option (Int32 × gI × gJ) := nm (up2 σ 199 0 0) fun σ_1 => bd (B_X12_canSail_0 N σ_1 τ x1 x2 0 x3) fun r_2 σ_2 τ_2 => if r_2 = 0 then (some ((-1), σ_2, τ_2)) else (bd (B_X12_thinksNow_0 N σ_2 τ_2) fun _ σ_4 τ_4 => H_X12_coins_25 N N σ_4 τ_4 x1 x2 x3 0)
set_option maxHeartbeats 4000000 in
set_option maxRecDepth 100000 in
theorem k_X12_coins_25 (l : Launch) (S : CallFix P9 m9 C9 cX12_coins 6 s av.toArray gx_G RX12) (hr : meth.sig.returnType = (some .int)) (hlk : meth.locks = false) (hK : gx_K E s) (N : Nat) (rec_25 : gI → gJ → Int32 → Int32 → Int32 → Int32 → Option (Int32 × gI × gJ)) (hrec_25 : ∀ (σ : gI) (τ : gJ) (x1 : Int32) (x2 : Int32) (x3 : Int32) (x4 : Int32) (r : Int32) (σ1 : gI) (τ1 : gJ) (H : Heap) (locs : List Loc) (ls : Array Slot), rec_25 σ τ x1 x2 x3 x4 = some (r, σ1, τ1) → gx_W gx_tb gx_tb.length E s σ τ H locs → lv_has ls 6 [(0, .ref (E.2.2 + 199)), (1, .int x1), (2, .int x2), (3, .int x3), (4, .int x4)] → W P9 l e9 (gx_rm 9) s m9 av.toArray below meth C9 H locs 0 0 (gq_Qi below av s E r σ1 τ1) (F0 m9 25 ls [])) (σ : gI) (τ : gJ) (x1 : Int32) (x2 : Int32) (x3 : Int32) (x4 : Int32) {r : Int32} {σ1 : gI} {τ1 : gJ} (h : C_X12_coins_25 N rec_25 σ τ x1 x2 x3 x4 = some (r, σ1, τ1)) {H : Heap} {locs : List Loc} {ls : Array Slot} (hw : gx_W gx_tb gx_tb.length E s σ τ H locs) (hl : lv_has ls 6 [(0, .ref (E.2.2 + 199)), (1, .int x1), (2, .int x2), (3, .int x3), (4, .int x4)]) : W P9 l e9 (gx_rm 9) s m9 av.toArray below meth C9 H locs 0 0 (gq_Qi below av s E r σ1 τ1) (F0 m9 25 ls []) := by
  have hx := S.1
  have hb := S.2.1
  unfold C_X12_coins_25 at h
  refine lv_iload hx hb dX12_coins_25 (lv_at hl 4 rfl) ?_
  refine lv_bipush (v := 9) hx hb dX12_coins_27 (by decide) ?_
  refine lv_icmp_gt (tgt := 70) hx hb dX12_coins_29 (by decide) (fun c_1 => ?_) (fun c_1 => ?_)
  · rw [if_pos c_1] at h
    refine lv_bipush (v := (-2)) hx hb dX12_coins_70 (by decide) ?_
    obtain ⟨rfl, rfl, rfl⟩ := sm_inj h
    exact gx_ri (post := gq_p (-2) σ τ) (v := (-2)) S hr hlk hw rfl dX12_coins_72 ⟨rfl, rfl, rfl⟩
  · rw [if_neg c_1] at h
    refine lv_aload_n hx hb dX12_coins_32 rfl (lv_at hl 0 rfl) ?_
    refine lv_iload_n hx hb dX12_coins_33 rfl (lv_at hl 1 rfl) ?_
    refine lv_iload_n hx hb dX12_coins_34 rfl (lv_at hl 2 rfl) ?_
    refine lv_iload hx hb dX12_coins_35 (lv_at hl 4 rfl) ?_
    refine lv_iconst (v := 0) hx hb dX12_coins_37 (by decide) ?_
    refine lv_iload_n hx hb dX12_coins_38 rfl (lv_at hl 3 rfl) ?_
    obtain ⟨r_2, σ_2, τ_2, q_2, h⟩ := bd_some h
    refine gx_cVi (As := [.int x1, .int x2, .int x4, .int 0, .int x3]) (rest := []) S hK gx_ok hw (c_X12_sails l (E := E) N σ τ x1 x2 x4 0 x3 q_2) cw_X12_412 t_199 cl_13 ⟨Nat.le_of_ble_eq_true rfl, Nat.le_of_ble_eq_true rfl⟩ rfl hl.1 rfl (Nat.le_of_ble_eq_true rfl) ⟨Nat.le_of_ble_eq_true rfl, Nat.le_of_ble_eq_true rfl⟩ dX12_coins_39 (fun r9 σ9 τ9 H locs hp hw => ?_)
    obtain ⟨rfl, rfl, rfl⟩ := hp
    refine lv_istore (lv' := [(5, .int r_2), (0, .ref (E.2.2 + 199)), (1, .int x1), (2, .int x2), (3, .int x3), (4, .int x4)]) hx hb dX12_coins_42 hl (by decide) rfl (fun ls hl => ?_)
    refine lv_iload hx hb dX12_coins_44 (lv_at hl 0 rfl) ?_
    refine lv_if_lt (tgt := 64) hx hb dX12_coins_46 (by decide) (fun c_3 => ?_) (fun c_3 => ?_)
    · rw [if_pos c_3] at h
      refine lv_iinc (v := x4 + 1) (lv' := [(4, .int (x4 + 1)), (5, .int r_2), (0, .ref (E.2.2 + 199)), (1, .int x1), (2, .int x2), (3, .int x3)]) hx hb dX12_coins_64 hl (k := 5) rfl rfl (by decide) rfl (fun ls hl => ?_)
      obtain ⟨v_4, e_4, h⟩ := nm_some h
      have hl : lv_has ls 6 [(4, .int v_4), (5, .int r_2), (0, .ref (E.2.2 + 199)), (1, .int x1), (2, .int x2), (3, .int x3)] := by rw [e_4]; exact hl
      refine lv_goto (tgt := 25) hx hb dX12_coins_67 (by decide) ?_
      exact hrec_25 σ_2 τ_2 x1 x2 x3 v_4 _ _ _ _ _ _ h hw (lv_sub hl [2, 3, 4, 5, 0] rfl)
    · rw [if_neg c_3] at h
      refine lv_aload_n hx hb dX12_coins_49 rfl (lv_at hl 1 rfl) ?_
      refine lv_iconst (v := 0) hx hb dX12_coins_50 (by decide) ?_
      refine gx_put S hK gx_ok hw t_199 cl_13 1 (by decide) rfl mw_1415 rfl rfl (ty := .int) (v := 0) (by decide +kernel) rfl rfl dX12_coins_51 (fun H locs hw => ?_)
      obtain ⟨σ_5, e_5, h⟩ := nm_some h
      rw [← e_5] at hw
      refine lv_aload_n hx hb dX12_coins_54 rfl (lv_at hl 1 rfl) ?_
      refine lv_iload hx hb dX12_coins_55 (lv_at hl 0 rfl) ?_
      refine lv_i2l (v := r_2.toInt64) hx hb dX12_coins_57 rfl ?_
      obtain ⟨u_6, σ_6, τ_6, q_6, h⟩ := bd_some h
      refine gx_cVv (As := [.long r_2.toInt64]) (rest := []) S hK gx_ok hw (c_X12_enters l (E := E) N σ_5 τ_2 r_2.toInt64 q_6) cw_X12_122 t_199 cl_13 ⟨Nat.le_of_ble_eq_true rfl, Nat.le_of_ble_eq_true rfl⟩ rfl hl.1 rfl (Nat.le_of_ble_eq_true rfl) ⟨Nat.le_of_ble_eq_true rfl, Nat.le_of_ble_eq_true rfl⟩ dX12_coins_58 (fun σ9 τ9 H locs hp hw => ?_)
      obtain ⟨rfl, rfl⟩ := hp
      refine lv_iload hx hb dX12_coins_61 (lv_at hl 5 rfl) ?_
      obtain ⟨rfl, rfl, rfl⟩ := sm_inj h
      exact gx_ri (post := gq_p x4 σ_6 τ_6) (v := x4) S hr hlk hw rfl dX12_coins_63 ⟨rfl, rfl, rfl⟩
set_option maxHeartbeats 4000000 in
set_option maxRecDepth 100000 in
theorem h_X12_coins_25 (l : Launch) (S : CallFix P9 m9 C9 cX12_coins 6 s av.toArray gx_G RX12) (hr : meth.sig.returnType = (some .int)) (hlk : meth.locks = false) (hK : gx_K E s) (N : Nat) : ∀ (n : Nat) (σ : gI) (τ : gJ) (x1 : Int32) (x2 : Int32) (x3 : Int32) (x4 : Int32) (r : Int32) (σ1 : gI) (τ1 : gJ), H_X12_coins_25 N n σ τ x1 x2 x3 x4 = some (r, σ1, τ1) → ∀ (H : Heap) (locs : List Loc) (ls : Array Slot), gx_W gx_tb gx_tb.length E s σ τ H locs → lv_has ls 6 [(0, .ref (E.2.2 + 199)), (1, .int x1), (2, .int x2), (3, .int x3), (4, .int x4)] → W P9 l e9 (gx_rm 9) s m9 av.toArray below meth C9 H locs 0 0 (gq_Qi below av s E r σ1 τ1) (F0 m9 25 ls []) := by
  intro n
  induction n with
  | zero => intro σ τ x1 x2 x3 x4 r σ1 τ1 h; cases h
  | succ n ih =>
    intro σ τ x1 x2 x3 x4 r σ1 τ1 h H locs ls hw hl
    exact k_X12_coins_25 l S hr hlk hK N (H_X12_coins_25 N n) (fun σ τ x1 x2 x3 x4 r σ1 τ1 H locs ls h hw hl => ih σ τ x1 x2 x3 x4 r σ1 τ1 h H locs ls hw hl) σ τ x1 x2 x3 x4 h hw hl
set_option maxHeartbeats 4000000 in
set_option maxRecDepth 100000 in
theorem b_X12_coins_0 (l : Launch) (S : CallFix P9 m9 C9 cX12_coins 6 s av.toArray gx_G RX12) (hr : meth.sig.returnType = (some .int)) (hlk : meth.locks = false) (hK : gx_K E s) (N : Nat) (σ : gI) (τ : gJ) (x1 : Int32) (x2 : Int32) (x3 : Int32) {r : Int32} {σ1 : gI} {τ1 : gJ} (h : B_X12_coins_0 N σ τ x1 x2 x3 = some (r, σ1, τ1)) {H : Heap} {locs : List Loc} {ls : Array Slot} (hw : gx_W gx_tb gx_tb.length E s σ τ H locs) (hl : lv_has ls 6 [(0, .ref (E.2.2 + 199)), (1, .int x1), (2, .int x2), (3, .int x3)]) : W P9 l e9 (gx_rm 9) s m9 av.toArray below meth C9 H locs 0 0 (gq_Qi below av s E r σ1 τ1) (F0 m9 0 ls []) := by
  have hx := S.1
  have hb := S.2.1
  unfold B_X12_coins_0 at h
  refine lv_aload_n hx hb dX12_coins_0 rfl (lv_at hl 0 rfl) ?_
  refine lv_iconst (v := 0) hx hb dX12_coins_1 (by decide) ?_
  refine gx_put S hK gx_ok hw t_199 cl_13 0 (by decide) rfl mw_1414 rfl rfl (ty := .int) (v := 0) (by decide +kernel) rfl rfl dX12_coins_2 (fun H locs hw => ?_)
  obtain ⟨σ_1, e_1, h⟩ := nm_some h
  rw [← e_1] at hw
  refine lv_aload_n hx hb dX12_coins_5 rfl (lv_at hl 0 rfl) ?_
  refine lv_iload_n hx hb dX12_coins_6 rfl (lv_at hl 1 rfl) ?_
  refine lv_iload_n hx hb dX12_coins_7 rfl (lv_at hl 2 rfl) ?_
  refine lv_iconst (v := 0) hx hb dX12_coins_8 (by decide) ?_
  refine lv_iload_n hx hb dX12_coins_9 rfl (lv_at hl 3 rfl) ?_
  obtain ⟨r_2, σ_2, τ_2, q_2, h⟩ := bd_some h
  refine gx_cVi (As := [.int x1, .int x2, .int 0, .int x3]) (rest := []) S hK gx_ok hw (c_X12_canSail l (E := E) N σ_1 τ x1 x2 0 x3 q_2) cw_X12_405 t_199 cl_13 ⟨Nat.le_of_ble_eq_true rfl, Nat.le_of_ble_eq_true rfl⟩ rfl hl.1 rfl (Nat.le_of_ble_eq_true rfl) ⟨Nat.le_of_ble_eq_true rfl, Nat.le_of_ble_eq_true rfl⟩ dX12_coins_10 (fun r9 σ9 τ9 H locs hp hw => ?_)
  obtain ⟨rfl, rfl, rfl⟩ := hp
  refine lv_if_ne (tgt := 18) hx hb dX12_coins_13 (by decide) (fun c_3 => ?_) (fun c_3 => ?_)
  · rw [if_neg c_3] at h
    refine lv_aload_n hx hb dX12_coins_18 rfl (lv_at hl 0 rfl) ?_
    obtain ⟨u_4, σ_4, τ_4, q_4, h⟩ := bd_some h
    refine gx_cVv (As := []) (rest := []) S hK gx_ok hw (c_X12_thinksNow l (E := E) N σ_2 τ_2 q_4) cw_X12_409 t_199 cl_13 ⟨Nat.le_of_ble_eq_true rfl, Nat.le_of_ble_eq_true rfl⟩ rfl hl.1 rfl (Nat.le_of_ble_eq_true rfl) ⟨Nat.le_of_ble_eq_true rfl, Nat.le_of_ble_eq_true rfl⟩ dX12_coins_19 (fun σ9 τ9 H locs hp hw => ?_)
    obtain ⟨rfl, rfl⟩ := hp
    refine lv_iconst (v := 0) hx hb dX12_coins_22 (by decide) ?_
    refine lv_istore (lv' := [(4, .int 0), (0, .ref (E.2.2 + 199)), (1, .int x1), (2, .int x2), (3, .int x3)]) hx hb dX12_coins_23 hl (by decide) rfl (fun ls hl => ?_)
    exact h_X12_coins_25 l S hr hlk hK N N σ_4 τ_4 x1 x2 x3 0 _ _ _ h _ _ _ hw (lv_sub hl [1, 2, 3, 4, 0] rfl)
  · rw [if_pos c_3] at h
    refine lv_iconst (v := (-1)) hx hb dX12_coins_16 (by decide) ?_
    obtain ⟨rfl, rfl, rfl⟩ := sm_inj h
    exact gx_ri (post := gq_p (-1) σ_2 τ_2) (v := (-1)) S hr hlk hw rfl dX12_coins_17 ⟨rfl, rfl, rfl⟩
set_option maxHeartbeats 4000000 in
set_option maxRecDepth 100000 in
theorem c_X12_coins (l : Launch) {E : gE} (N : Nat) (σ : gI) (τ : gJ) (x1 : Int32) (x2 : Int32) (x3 : Int32) {r : Int32} {σ1 : gI} {τ1 : gJ} (h : B_X12_coins_0 N σ τ x1 x2 x3 = some (r, σ1, τ1)) : gx_Mi l yX12_coins cX12_coins 6 (some .int) 9 gx_tb E σ τ [.ref (E.2.2 + 199), .int x1, .int x2, .int x3] (gq_p r σ1 τ1) := by
  refine gx_bi (by decide +kernel) (Nat.le_of_ble_eq_true rfl) ?_
  intro P9 e9 s m9 below meth C9 S hr hlk hK hw ls hl
  have hl : lv_has ls 6 [(0, .ref (E.2.2 + 199)), (1, .int x1), (2, .int x2), (3, .int x3)] := hl
  exact b_X12_coins_0 l S hr hlk hK N σ τ x1 x2 x3 h hw hl
/-! X12_isThing -/
def B_X12_isThing_0 (N : Nat) (σ : gI) (τ : gJ) (x1 : Int32) : Option (Int32 × gI × gJ) := bd (B_X12_in_0 N σ τ x1.toInt64 0 (((σ 206 44) - 1).toInt64)) fun r_1 σ_1 τ_1 => cb r_1 <| some (r_1, σ_1, τ_1)
set_option maxHeartbeats 4000000 in
set_option maxRecDepth 100000 in
theorem b_X12_isThing_0 (l : Launch) (S : CallFix P9 m9 C9 cX12_isThing 2 s av.toArray gx_G RX12) (hr : meth.sig.returnType = (some .boolean)) (hlk : meth.locks = false) (hK : gx_K E s) (N : Nat) (σ : gI) (τ : gJ) (x1 : Int32) {r : Int32} {σ1 : gI} {τ1 : gJ} (h : B_X12_isThing_0 N σ τ x1 = some (r, σ1, τ1)) {H : Heap} {locs : List Loc} {ls : Array Slot} (hw : gx_W gx_tb gx_tb.length E s σ τ H locs) (hl : lv_has ls 2 [(0, .ref (E.2.2 + 199)), (1, .int x1)]) : W P9 l e9 (gx_rm 1) s m9 av.toArray below meth C9 H locs 0 0 (gq_Qi below av s E r σ1 τ1) (F0 m9 0 ls []) := by
  have hx := S.1
  have hb := S.2.1
  unfold B_X12_isThing_0 at h
  refine lv_iload_n hx hb dX12_isThing_0 rfl (lv_at hl 1 rfl) ?_
  refine lv_i2l (v := x1.toInt64) hx hb dX12_isThing_1 rfl ?_
  refine lv_lconst (v := 0) hx hb dX12_isThing_2 (by decide) ?_
  refine lv_aload_n hx hb dX12_isThing_3 rfl (lv_at hl 0 rfl) ?_
  refine gx_getr (j := 206) S hK hw t_199 cl_13 10 (by decide) rfl mw_1424 rfl dX12_isThing_4 ?_
  refine lv_bipush (v := 44) hx hb dX12_isThing_7 (by decide) ?_
  refine gx_iald S hK hw t_206 44 rfl (gx_in rfl (by decide) (by decide)) dX12_isThing_9 ?_
  refine lv_iconst (v := 1) hx hb dX12_isThing_10 (by decide) ?_
  refine lv_isub hx hb dX12_isThing_11 ?_
  refine lv_i2l (v := ((σ 206 44) - 1).toInt64) hx hb dX12_isThing_12 rfl ?_
  obtain ⟨r_1, σ_1, τ_1, q_1, h⟩ := bd_some h
  refine gx_cSi (As := [.long x1.toInt64, .long 0, .long (((σ 206 44) - 1).toInt64)]) (rest := []) S hK gx_ok hw (c_X12_in l (E := E) N σ τ x1.toInt64 0 (((σ 206 44) - 1).toInt64) q_1) cw_X12_129 ⟨Nat.le_of_ble_eq_true rfl, Nat.le_of_ble_eq_true rfl⟩ rfl hl.1 rfl (Nat.le_of_ble_eq_true rfl) ⟨Nat.le_of_ble_eq_true rfl, Nat.le_of_ble_eq_true rfl⟩ dX12_isThing_13 (fun r9 σ9 τ9 H locs hp hw => ?_)
  obtain ⟨rfl, rfl, rfl⟩ := hp
  obtain ⟨hq_2, h⟩ := cb_some h
  obtain ⟨rfl, rfl, rfl⟩ := sm_inj h
  exact gx_ri (post := gq_p r_1 σ_1 τ_1) (v := r_1) S hr hlk hw (cb_nar hq_2) dX12_isThing_16 ⟨rfl, rfl, rfl⟩
set_option maxHeartbeats 4000000 in
set_option maxRecDepth 100000 in
theorem c_X12_isThing (l : Launch) {E : gE} (N : Nat) (σ : gI) (τ : gJ) (x1 : Int32) {r : Int32} {σ1 : gI} {τ1 : gJ} (h : B_X12_isThing_0 N σ τ x1 = some (r, σ1, τ1)) : gx_Mi l yX12_isThing cX12_isThing 2 (some .boolean) 1 gx_tb E σ τ [.ref (E.2.2 + 199), .int x1] (gq_p r σ1 τ1) := by
  refine gx_bi (by decide +kernel) (Nat.le_of_ble_eq_true rfl) ?_
  intro P9 e9 s m9 below meth C9 S hr hlk hK hw ls hl
  have hl : lv_has ls 2 [(0, .ref (E.2.2 + 199)), (1, .int x1)] := hl
  exact b_X12_isThing_0 l S hr hlk hK N σ τ x1 h hw hl
/-! X12_puts -/
def C_X12_puts_2 (N : Nat) (rec_2 : gI → gJ → Int32 → Option (Unit × gI × gJ)) (σ : gI) (τ : gJ) (x2 : Int32) : Option (Unit × gI × gJ) := if 45 ≤ x2 then (some ((), σ, τ)) else (ck x2 45 fun j_2 => nm (up2 σ 207 j_2 (σ 206 j_2)) fun σ_3 => nm (x2 + 1) fun v_4 => rec_2 σ_3 τ v_4)
def H_X12_puts_2 (N : Nat) : Nat → gI → gJ → Int32 → Option (Unit × gI × gJ) := itn (fun rec_2 => C_X12_puts_2 N rec_2) (fun _ _ _ => none)
def B_X12_puts_0 (N : Nat) (σ : gI) (τ : gJ) : Option (Unit × gI × gJ) := H_X12_puts_2 N N σ τ 0
set_option maxHeartbeats 4000000 in
set_option maxRecDepth 100000 in
theorem k_X12_puts_2 (l : Launch) (S : CallFix P9 m9 C9 cX12_puts 3 s av.toArray gx_G RX12) (hr : meth.sig.returnType = none) (hlk : meth.locks = false) (hK : gx_K E s) (N : Nat) (rec_2 : gI → gJ → Int32 → Option (Unit × gI × gJ)) (hrec_2 : ∀ (σ : gI) (τ : gJ) (x2 : Int32) (r : Unit) (σ1 : gI) (τ1 : gJ) (H : Heap) (locs : List Loc) (ls : Array Slot), rec_2 σ τ x2 = some (r, σ1, τ1) → gx_W gx_tb gx_tb.length E s σ τ H locs → lv_has ls 3 [(0, .ref (E.2.2 + 206)), (1, .ref (E.2.2 + 207)), (2, .int x2)] → W P9 l e9 (gx_rm 0) s m9 av.toArray below meth C9 H locs 0 0 (gq_Qv below av s E σ1 τ1) (F0 m9 2 ls [])) (σ : gI) (τ : gJ) (x2 : Int32) {r : Unit} {σ1 : gI} {τ1 : gJ} (h : C_X12_puts_2 N rec_2 σ τ x2 = some (r, σ1, τ1)) {H : Heap} {locs : List Loc} {ls : Array Slot} (hw : gx_W gx_tb gx_tb.length E s σ τ H locs) (hl : lv_has ls 3 [(0, .ref (E.2.2 + 206)), (1, .ref (E.2.2 + 207)), (2, .int x2)]) : W P9 l e9 (gx_rm 0) s m9 av.toArray below meth C9 H locs 0 0 (gq_Qv below av s E σ1 τ1) (F0 m9 2 ls []) := by
  have hx := S.1
  have hb := S.2.1
  unfold C_X12_puts_2 at h
  refine lv_iload_n hx hb dX12_puts_2 rfl (lv_at hl 2 rfl) ?_
  refine lv_bipush (v := 45) hx hb dX12_puts_3 (by decide) ?_
  refine lv_icmp_ge (tgt := 20) hx hb dX12_puts_5 (by decide) (fun c_1 => ?_) (fun c_1 => ?_)
  · rw [if_pos c_1] at h
    obtain ⟨-, rfl, rfl⟩ := sm_inj h
    exact gx_rv (post := gq_v σ τ) S hr hlk hw dX12_puts_20 ⟨rfl, rfl⟩
  · rw [if_neg c_1] at h
    refine lv_aload_n hx hb dX12_puts_8 rfl (lv_at hl 1 rfl) ?_
    refine lv_iload_n hx hb dX12_puts_9 rfl (lv_at hl 2 rfl) ?_
    refine lv_aload_n hx hb dX12_puts_10 rfl (lv_at hl 0 rfl) ?_
    refine lv_iload_n hx hb dX12_puts_11 rfl (lv_at hl 2 rfl) ?_
    obtain ⟨j_2, hj_2, hi_2, h⟩ := ck_some h
    refine gx_iald S hK hw t_206 j_2 hj_2 hi_2 dX12_puts_12 ?_
    refine gx_iast S hK gx_ok hw t_207 j_2 hj_2 hi_2 dX12_puts_13 (fun H locs hw => ?_)
    obtain ⟨σ_3, e_3, h⟩ := nm_some h
    rw [← e_3] at hw
    refine lv_iinc (v := x2 + 1) (lv' := [(2, .int (x2 + 1)), (0, .ref (E.2.2 + 206)), (1, .ref (E.2.2 + 207))]) hx hb dX12_puts_14 hl (k := 2) rfl rfl (by decide) rfl (fun ls hl => ?_)
    obtain ⟨v_4, e_4, h⟩ := nm_some h
    have hl : lv_has ls 3 [(2, .int v_4), (0, .ref (E.2.2 + 206)), (1, .ref (E.2.2 + 207))] := by rw [e_4]; exact hl
    refine lv_goto (tgt := 2) hx hb dX12_puts_17 (by decide) ?_
    exact hrec_2 σ_3 τ v_4 _ _ _ _ _ _ h hw (lv_sub hl [1, 2, 0] rfl)
set_option maxHeartbeats 4000000 in
set_option maxRecDepth 100000 in
theorem h_X12_puts_2 (l : Launch) (S : CallFix P9 m9 C9 cX12_puts 3 s av.toArray gx_G RX12) (hr : meth.sig.returnType = none) (hlk : meth.locks = false) (hK : gx_K E s) (N : Nat) : ∀ (n : Nat) (σ : gI) (τ : gJ) (x2 : Int32) (r : Unit) (σ1 : gI) (τ1 : gJ), H_X12_puts_2 N n σ τ x2 = some (r, σ1, τ1) → ∀ (H : Heap) (locs : List Loc) (ls : Array Slot), gx_W gx_tb gx_tb.length E s σ τ H locs → lv_has ls 3 [(0, .ref (E.2.2 + 206)), (1, .ref (E.2.2 + 207)), (2, .int x2)] → W P9 l e9 (gx_rm 0) s m9 av.toArray below meth C9 H locs 0 0 (gq_Qv below av s E σ1 τ1) (F0 m9 2 ls []) := by
  intro n
  induction n with
  | zero => intro σ τ x2 r σ1 τ1 h; cases h
  | succ n ih =>
    intro σ τ x2 r σ1 τ1 h H locs ls hw hl
    exact k_X12_puts_2 l S hr hlk hK N (H_X12_puts_2 N n) (fun σ τ x2 r σ1 τ1 H locs ls h hw hl => ih σ τ x2 r σ1 τ1 h H locs ls hw hl) σ τ x2 h hw hl
set_option maxHeartbeats 4000000 in
set_option maxRecDepth 100000 in
theorem b_X12_puts_0 (l : Launch) (S : CallFix P9 m9 C9 cX12_puts 3 s av.toArray gx_G RX12) (hr : meth.sig.returnType = none) (hlk : meth.locks = false) (hK : gx_K E s) (N : Nat) (σ : gI) (τ : gJ) {r : Unit} {σ1 : gI} {τ1 : gJ} (h : B_X12_puts_0 N σ τ = some (r, σ1, τ1)) {H : Heap} {locs : List Loc} {ls : Array Slot} (hw : gx_W gx_tb gx_tb.length E s σ τ H locs) (hl : lv_has ls 3 [(0, .ref (E.2.2 + 206)), (1, .ref (E.2.2 + 207))]) : W P9 l e9 (gx_rm 0) s m9 av.toArray below meth C9 H locs 0 0 (gq_Qv below av s E σ1 τ1) (F0 m9 0 ls []) := by
  have hx := S.1
  have hb := S.2.1
  unfold B_X12_puts_0 at h
  refine lv_iconst (v := 0) hx hb dX12_puts_0 (by decide) ?_
  refine lv_istore_n (lv' := [(2, .int 0), (0, .ref (E.2.2 + 206)), (1, .ref (E.2.2 + 207))]) hx hb dX12_puts_1 rfl hl (by decide) rfl (fun ls hl => ?_)
  exact h_X12_puts_2 l S hr hlk hK N N σ τ 0 _ _ _ h _ _ _ hw (lv_sub hl [1, 2, 0] rfl)
set_option maxHeartbeats 4000000 in
set_option maxRecDepth 100000 in
theorem c_X12_puts (l : Launch) {E : gE} (N : Nat) (σ : gI) (τ : gJ) {r : Unit} {σ1 : gI} {τ1 : gJ} (h : B_X12_puts_0 N σ τ = some (r, σ1, τ1)) : gx_Mv l yX12_puts cX12_puts 3 none 0 gx_tb E σ τ [.ref (E.2.2 + 206), .ref (E.2.2 + 207)] (gq_v σ1 τ1) := by
  refine gx_bv (by decide +kernel) (Nat.le_of_ble_eq_true rfl) ?_
  intro P9 e9 s m9 below meth C9 S hr hlk hK hw ls hl
  have hl : lv_has ls 3 [(0, .ref (E.2.2 + 206)), (1, .ref (E.2.2 + 207))] := hl
  exact b_X12_puts_0 l S hr hlk hK N σ τ h hw hl
/-! X12_comes -/
def B_X12_comes_0 (N : Nat) (σ : gI) (τ : gJ) (x1 : Int32) : Option (Int32 × gI × gJ) := nm (up2 σ 199 0 0) fun σ_1 => bd (B_X12_isThing_0 N σ_1 τ x1) fun r_2 σ_2 τ_2 => if r_2 = 0 then (some ((-1), σ_2, τ_2)) else (bd (B_X12_puts_0 N σ_2 τ_2) fun _ σ_4 τ_4 => bd (B_X12_endsAfter_0 N 207 σ_4 τ_4 x1 0) fun r_5 σ_5 τ_5 => nm (7 * x1) fun v_6 => nm (up2 σ_5 199 1 0) fun σ_7 => ck (v_6 + 0) 45 fun j_8 => bd (B_X12_enters_0 N σ_7 τ_5 ((σ_7 207 j_8).toInt64)) fun _ σ_9 τ_9 => if r_5 < 0 then (if 0 ≤ r_5 then (some ((-2), σ_9, τ_9)) else (some ((-3), σ_9, τ_9))) else (ck (v_6 + 4) 45 fun j_12 => if σ_9 207 j_12 = 2 then (if 0 ≤ r_5 then (some ((-2), σ_9, τ_9)) else (some ((-3), σ_9, τ_9))) else (ck (v_6 + 3) 45 fun j_14 => bd (B_X12_enters_0 N σ_9 τ_9 ((σ_9 207 j_14).toInt64)) fun _ σ_15 τ_15 => some (r_5, σ_15, τ_15))))
set_option maxHeartbeats 4000000 in
set_option maxRecDepth 100000 in
theorem b_X12_comes_0 (l : Launch) (S : CallFix P9 m9 C9 cX12_comes 4 s av.toArray gx_G RX12) (hr : meth.sig.returnType = (some .int)) (hlk : meth.locks = false) (hK : gx_K E s) (N : Nat) (σ : gI) (τ : gJ) (x1 : Int32) {r : Int32} {σ1 : gI} {τ1 : gJ} (h : B_X12_comes_0 N σ τ x1 = some (r, σ1, τ1)) {H : Heap} {locs : List Loc} {ls : Array Slot} (hw : gx_W gx_tb gx_tb.length E s σ τ H locs) (hl : lv_has ls 4 [(0, .ref (E.2.2 + 199)), (1, .int x1)]) : W P9 l e9 (gx_rm 7) s m9 av.toArray below meth C9 H locs 0 0 (gq_Qi below av s E r σ1 τ1) (F0 m9 0 ls []) := by
  have hx := S.1
  have hb := S.2.1
  unfold B_X12_comes_0 at h
  refine lv_aload_n hx hb dX12_comes_0 rfl (lv_at hl 0 rfl) ?_
  refine lv_iconst (v := 0) hx hb dX12_comes_1 (by decide) ?_
  refine gx_put S hK gx_ok hw t_199 cl_13 0 (by decide) rfl mw_1414 rfl rfl (ty := .int) (v := 0) (by decide +kernel) rfl rfl dX12_comes_2 (fun H locs hw => ?_)
  obtain ⟨σ_1, e_1, h⟩ := nm_some h
  rw [← e_1] at hw
  refine lv_aload_n hx hb dX12_comes_5 rfl (lv_at hl 0 rfl) ?_
  refine lv_iload_n hx hb dX12_comes_6 rfl (lv_at hl 1 rfl) ?_
  obtain ⟨r_2, σ_2, τ_2, q_2, h⟩ := bd_some h
  refine gx_cVi (As := [.int x1]) (rest := []) S hK gx_ok hw (c_X12_isThing l (E := E) N σ_1 τ x1 q_2) cw_X12_309 t_199 cl_13 ⟨Nat.le_of_ble_eq_true rfl, Nat.le_of_ble_eq_true rfl⟩ rfl hl.1 rfl (Nat.le_of_ble_eq_true rfl) ⟨Nat.le_of_ble_eq_true rfl, Nat.le_of_ble_eq_true rfl⟩ dX12_comes_7 (fun r9 σ9 τ9 H locs hp hw => ?_)
  obtain ⟨rfl, rfl, rfl⟩ := hp
  refine lv_if_ne (tgt := 15) hx hb dX12_comes_10 (by decide) (fun c_3 => ?_) (fun c_3 => ?_)
  · rw [if_neg c_3] at h
    refine lv_aload_n hx hb dX12_comes_15 rfl (lv_at hl 0 rfl) ?_
    refine gx_getr (j := 206) S hK hw t_199 cl_13 10 (by decide) rfl mw_1424 rfl dX12_comes_16 ?_
    refine lv_aload_n hx hb dX12_comes_19 rfl (lv_at hl 0 rfl) ?_
    refine gx_getr (j := 207) S hK hw t_199 cl_13 11 (by decide) rfl mw_1425 rfl dX12_comes_20 ?_
    obtain ⟨u_4, σ_4, τ_4, q_4, h⟩ := bd_some h
    refine gx_cSv (As := [.ref (E.2.2 + 206), .ref (E.2.2 + 207)]) (rest := []) S hK gx_ok hw (c_X12_puts l (E := E) N σ_2 τ_2 q_4) cw_X12_374 ⟨Nat.le_of_ble_eq_true rfl, Nat.le_of_ble_eq_true rfl⟩ rfl hl.1 rfl (Nat.le_of_ble_eq_true rfl) ⟨Nat.le_of_ble_eq_true rfl, Nat.le_of_ble_eq_true rfl⟩ dX12_comes_23 (fun σ9 τ9 H locs hp hw => ?_)
    obtain ⟨rfl, rfl⟩ := hp
    refine lv_aload_n hx hb dX12_comes_26 rfl (lv_at hl 0 rfl) ?_
    refine lv_aload_n hx hb dX12_comes_27 rfl (lv_at hl 0 rfl) ?_
    refine gx_getr (j := 207) S hK hw t_199 cl_13 11 (by decide) rfl mw_1425 rfl dX12_comes_28 ?_
    refine lv_iload_n hx hb dX12_comes_31 rfl (lv_at hl 1 rfl) ?_
    refine lv_iconst (v := 0) hx hb dX12_comes_32 (by decide) ?_
    obtain ⟨r_5, σ_5, τ_5, q_5, h⟩ := bd_some h
    refine gx_cVi (As := [.ref (E.2.2 + 207), .int x1, .int 0]) (rest := []) S hK gx_ok hw (c_X12_endsAfter l (E := E) N 207 t_207 σ_4 τ_4 x1 0 q_5) cw_X12_383 t_199 cl_13 ⟨Nat.le_of_ble_eq_true rfl, Nat.le_of_ble_eq_true rfl⟩ rfl hl.1 rfl (Nat.le_of_ble_eq_true rfl) ⟨Nat.le_of_ble_eq_true rfl, Nat.le_of_ble_eq_true rfl⟩ dX12_comes_33 (fun r9 σ9 τ9 H locs hp hw => ?_)
    obtain ⟨rfl, rfl, rfl⟩ := hp
    refine lv_istore_n (lv' := [(2, .int r_5), (0, .ref (E.2.2 + 199)), (1, .int x1)]) hx hb dX12_comes_36 rfl hl (by decide) rfl (fun ls hl => ?_)
    refine lv_bipush (v := 7) hx hb dX12_comes_37 (by decide) ?_
    refine lv_iload_n hx hb dX12_comes_39 rfl (lv_at hl 2 rfl) ?_
    refine lv_imul hx hb dX12_comes_40 ?_
    refine lv_istore_n (lv' := [(3, .int (7 * x1)), (2, .int r_5), (0, .ref (E.2.2 + 199)), (1, .int x1)]) hx hb dX12_comes_41 rfl hl (by decide) rfl (fun ls hl => ?_)
    obtain ⟨v_6, e_6, h⟩ := nm_some h
    have hl : lv_has ls 4 [(3, .int v_6), (2, .int r_5), (0, .ref (E.2.2 + 199)), (1, .int x1)] := by rw [e_6]; exact hl
    refine lv_aload_n hx hb dX12_comes_42 rfl (lv_at hl 2 rfl) ?_
    refine lv_iconst (v := 0) hx hb dX12_comes_43 (by decide) ?_
    refine gx_put S hK gx_ok hw t_199 cl_13 1 (by decide) rfl mw_1415 rfl rfl (ty := .int) (v := 0) (by decide +kernel) rfl rfl dX12_comes_44 (fun H locs hw => ?_)
    obtain ⟨σ_7, e_7, h⟩ := nm_some h
    rw [← e_7] at hw
    refine lv_aload_n hx hb dX12_comes_47 rfl (lv_at hl 2 rfl) ?_
    refine lv_aload_n hx hb dX12_comes_48 rfl (lv_at hl 2 rfl) ?_
    refine gx_getr (j := 207) S hK hw t_199 cl_13 11 (by decide) rfl mw_1425 rfl dX12_comes_49 ?_
    refine lv_iload_n hx hb dX12_comes_52 rfl (lv_at hl 0 rfl) ?_
    refine lv_iconst (v := 0) hx hb dX12_comes_53 (by decide) ?_
    refine lv_iadd hx hb dX12_comes_54 ?_
    obtain ⟨j_8, hj_8, hi_8, h⟩ := ck_some h
    refine gx_iald S hK hw t_207 j_8 hj_8 hi_8 dX12_comes_55 ?_
    refine lv_i2l (v := (σ_7 207 j_8).toInt64) hx hb dX12_comes_56 rfl ?_
    obtain ⟨u_9, σ_9, τ_9, q_9, h⟩ := bd_some h
    refine gx_cVv (As := [.long ((σ_7 207 j_8).toInt64)]) (rest := []) S hK gx_ok hw (c_X12_enters l (E := E) N σ_7 τ_5 ((σ_7 207 j_8).toInt64) q_9) cw_X12_122 t_199 cl_13 ⟨Nat.le_of_ble_eq_true rfl, Nat.le_of_ble_eq_true rfl⟩ rfl hl.1 rfl (Nat.le_of_ble_eq_true rfl) ⟨Nat.le_of_ble_eq_true rfl, Nat.le_of_ble_eq_true rfl⟩ dX12_comes_57 (fun σ9 τ9 H locs hp hw => ?_)
    obtain ⟨rfl, rfl⟩ := hp
    refine lv_iload_n hx hb dX12_comes_60 rfl (lv_at hl 1 rfl) ?_
    refine lv_if_lt (tgt := 76) hx hb dX12_comes_61 (by decide) (fun c_10 => ?_) (fun c_10 => ?_)
    · rw [if_pos c_10] at h
      refine lv_iload_n hx hb dX12_comes_76 rfl (lv_at hl 1 rfl) ?_
      refine lv_if_ge (tgt := 85) hx hb dX12_comes_77 (by decide) (fun c_11 => ?_) (fun c_11 => ?_)
      · rw [if_pos c_11] at h
        refine lv_bipush (v := (-2)) hx hb dX12_comes_85 (by decide) ?_
        obtain ⟨rfl, rfl, rfl⟩ := sm_inj h
        exact gx_ri (post := gq_p (-2) σ_9 τ_9) (v := (-2)) S hr hlk hw rfl dX12_comes_87 ⟨rfl, rfl, rfl⟩
      · rw [if_neg c_11] at h
        refine lv_bipush (v := (-3)) hx hb dX12_comes_80 (by decide) ?_
        refine lv_goto (tgt := 87) hx hb dX12_comes_82 (by decide) ?_
        obtain ⟨rfl, rfl, rfl⟩ := sm_inj h
        exact gx_ri (post := gq_p (-3) σ_9 τ_9) (v := (-3)) S hr hlk hw rfl dX12_comes_87 ⟨rfl, rfl, rfl⟩
    · rw [if_neg c_10] at h
      refine lv_aload_n hx hb dX12_comes_64 rfl (lv_at hl 2 rfl) ?_
      refine gx_getr (j := 207) S hK hw t_199 cl_13 11 (by decide) rfl mw_1425 rfl dX12_comes_65 ?_
      refine lv_iload_n hx hb dX12_comes_68 rfl (lv_at hl 0 rfl) ?_
      refine lv_iconst (v := 4) hx hb dX12_comes_69 (by decide) ?_
      refine lv_iadd hx hb dX12_comes_70 ?_
      obtain ⟨j_12, hj_12, hi_12, h⟩ := ck_some h
      refine gx_iald S hK hw t_207 j_12 hj_12 hi_12 dX12_comes_71 ?_
      refine lv_iconst (v := 2) hx hb dX12_comes_72 (by decide) ?_
      refine lv_icmp_ne (tgt := 88) hx hb dX12_comes_73 (by decide) (fun c_13 => ?_) (fun c_13 => ?_)
      · rw [if_neg c_13] at h
        refine lv_aload_n hx hb dX12_comes_88 rfl (lv_at hl 2 rfl) ?_
        refine lv_aload_n hx hb dX12_comes_89 rfl (lv_at hl 2 rfl) ?_
        refine gx_getr (j := 207) S hK hw t_199 cl_13 11 (by decide) rfl mw_1425 rfl dX12_comes_90 ?_
        refine lv_iload_n hx hb dX12_comes_93 rfl (lv_at hl 0 rfl) ?_
        refine lv_iconst (v := 3) hx hb dX12_comes_94 (by decide) ?_
        refine lv_iadd hx hb dX12_comes_95 ?_
        obtain ⟨j_14, hj_14, hi_14, h⟩ := ck_some h
        refine gx_iald S hK hw t_207 j_14 hj_14 hi_14 dX12_comes_96 ?_
        refine lv_i2l (v := (σ_9 207 j_14).toInt64) hx hb dX12_comes_97 rfl ?_
        obtain ⟨u_15, σ_15, τ_15, q_15, h⟩ := bd_some h
        refine gx_cVv (As := [.long ((σ_9 207 j_14).toInt64)]) (rest := []) S hK gx_ok hw (c_X12_enters l (E := E) N σ_9 τ_9 ((σ_9 207 j_14).toInt64) q_15) cw_X12_122 t_199 cl_13 ⟨Nat.le_of_ble_eq_true rfl, Nat.le_of_ble_eq_true rfl⟩ rfl hl.1 rfl (Nat.le_of_ble_eq_true rfl) ⟨Nat.le_of_ble_eq_true rfl, Nat.le_of_ble_eq_true rfl⟩ dX12_comes_98 (fun σ9 τ9 H locs hp hw => ?_)
        obtain ⟨rfl, rfl⟩ := hp
        refine lv_iload_n hx hb dX12_comes_101 rfl (lv_at hl 1 rfl) ?_
        obtain ⟨rfl, rfl, rfl⟩ := sm_inj h
        exact gx_ri (post := gq_p r_5 σ_15 τ_15) (v := r_5) S hr hlk hw rfl dX12_comes_102 ⟨rfl, rfl, rfl⟩
      · rw [if_pos c_13] at h
        refine lv_iload_n hx hb dX12_comes_76 rfl (lv_at hl 1 rfl) ?_
        refine lv_if_ge (tgt := 85) hx hb dX12_comes_77 (by decide) (fun c_16 => ?_) (fun c_16 => ?_)
        · rw [if_pos c_16] at h
          refine lv_bipush (v := (-2)) hx hb dX12_comes_85 (by decide) ?_
          obtain ⟨rfl, rfl, rfl⟩ := sm_inj h
          exact gx_ri (post := gq_p (-2) σ_9 τ_9) (v := (-2)) S hr hlk hw rfl dX12_comes_87 ⟨rfl, rfl, rfl⟩
        · rw [if_neg c_16] at h
          refine lv_bipush (v := (-3)) hx hb dX12_comes_80 (by decide) ?_
          refine lv_goto (tgt := 87) hx hb dX12_comes_82 (by decide) ?_
          obtain ⟨rfl, rfl, rfl⟩ := sm_inj h
          exact gx_ri (post := gq_p (-3) σ_9 τ_9) (v := (-3)) S hr hlk hw rfl dX12_comes_87 ⟨rfl, rfl, rfl⟩
  · rw [if_pos c_3] at h
    refine lv_iconst (v := (-1)) hx hb dX12_comes_13 (by decide) ?_
    obtain ⟨rfl, rfl, rfl⟩ := sm_inj h
    exact gx_ri (post := gq_p (-1) σ_2 τ_2) (v := (-1)) S hr hlk hw rfl dX12_comes_14 ⟨rfl, rfl, rfl⟩
set_option maxHeartbeats 4000000 in
set_option maxRecDepth 100000 in
theorem c_X12_comes (l : Launch) {E : gE} (N : Nat) (σ : gI) (τ : gJ) (x1 : Int32) {r : Int32} {σ1 : gI} {τ1 : gJ} (h : B_X12_comes_0 N σ τ x1 = some (r, σ1, τ1)) : gx_Mi l yX12_comes cX12_comes 4 (some .int) 7 gx_tb E σ τ [.ref (E.2.2 + 199), .int x1] (gq_p r σ1 τ1) := by
  refine gx_bi (by decide +kernel) (Nat.le_of_ble_eq_true rfl) ?_
  intro P9 e9 s m9 below meth C9 S hr hlk hK hw ls hl
  have hl : lv_has ls 4 [(0, .ref (E.2.2 + 199)), (1, .int x1)] := hl
  exact b_X12_comes_0 l S hr hlk hK N σ τ x1 h hw hl
/-! X12_comesNow -/
def B_X12_comesNow_0 (N : Nat) (σ : gI) (τ : gJ) (x1 : Int32) (x2 : Int32) (x3 : Int32) (x4 : Int32) : Option (Int32 × gI × gJ) := bd (B_X12_canPut_0 N σ τ x1 x2 x3) fun r_1 σ_1 τ_1 => if r_1 = 0 then (some ((-1), σ_1, τ_1)) else (bd (B_X12_in_0 N σ_1 τ_1 x4.toInt64 0 99) fun r_3 σ_3 τ_3 => if r_3 = 0 then (some ((-1), σ_3, τ_3)) else (if σ_3 206 44 = 6 then (some ((-2), σ_3, τ_3)) else (bd (B_X12_lays_0 N 206 σ_3 τ_3 (σ_3 206 44) x1 x2 x3 x4) fun _ σ_6 τ_6 => nm (up2 σ_6 206 44 ((σ_6 206 44) + 1)) fun σ_7 => some ((σ_7 206 44) - 1, σ_7, τ_6))))
set_option maxHeartbeats 4000000 in
set_option maxRecDepth 100000 in
theorem b_X12_comesNow_0 (l : Launch) (S : CallFix P9 m9 C9 cX12_comesNow 5 s av.toArray gx_G RX12) (hr : meth.sig.returnType = (some .int)) (hlk : meth.locks = false) (hK : gx_K E s) (N : Nat) (σ : gI) (τ : gJ) (x1 : Int32) (x2 : Int32) (x3 : Int32) (x4 : Int32) {r : Int32} {σ1 : gI} {τ1 : gJ} (h : B_X12_comesNow_0 N σ τ x1 x2 x3 x4 = some (r, σ1, τ1)) {H : Heap} {locs : List Loc} {ls : Array Slot} (hw : gx_W gx_tb gx_tb.length E s σ τ H locs) (hl : lv_has ls 5 [(0, .ref (E.2.2 + 199)), (1, .int x1), (2, .int x2), (3, .int x3), (4, .int x4)]) : W P9 l e9 (gx_rm 3) s m9 av.toArray below meth C9 H locs 0 0 (gq_Qi below av s E r σ1 τ1) (F0 m9 0 ls []) := by
  have hx := S.1
  have hb := S.2.1
  unfold B_X12_comesNow_0 at h
  refine lv_aload_n hx hb dX12_comesNow_0 rfl (lv_at hl 0 rfl) ?_
  refine lv_iload_n hx hb dX12_comesNow_1 rfl (lv_at hl 1 rfl) ?_
  refine lv_iload_n hx hb dX12_comesNow_2 rfl (lv_at hl 2 rfl) ?_
  refine lv_iload_n hx hb dX12_comesNow_3 rfl (lv_at hl 3 rfl) ?_
  obtain ⟨r_1, σ_1, τ_1, q_1, h⟩ := bd_some h
  refine gx_cVi (As := [.int x1, .int x2, .int x3]) (rest := []) S hK gx_ok hw (c_X12_canPut l (E := E) N σ τ x1 x2 x3 q_1) cw_X12_331 t_199 cl_13 ⟨Nat.le_of_ble_eq_true rfl, Nat.le_of_ble_eq_true rfl⟩ rfl hl.1 rfl (Nat.le_of_ble_eq_true rfl) ⟨Nat.le_of_ble_eq_true rfl, Nat.le_of_ble_eq_true rfl⟩ dX12_comesNow_4 (fun r9 σ9 τ9 H locs hp hw => ?_)
  obtain ⟨rfl, rfl, rfl⟩ := hp
  refine lv_if_eq (tgt := 23) hx hb dX12_comesNow_7 (by decide) (fun c_2 => ?_) (fun c_2 => ?_)
  · rw [if_pos c_2] at h
    refine lv_iconst (v := (-1)) hx hb dX12_comesNow_23 (by decide) ?_
    obtain ⟨rfl, rfl, rfl⟩ := sm_inj h
    exact gx_ri (post := gq_p (-1) σ_1 τ_1) (v := (-1)) S hr hlk hw rfl dX12_comesNow_24 ⟨rfl, rfl, rfl⟩
  · rw [if_neg c_2] at h
    refine lv_iload hx hb dX12_comesNow_10 (lv_at hl 4 rfl) ?_
    refine lv_i2l (v := x4.toInt64) hx hb dX12_comesNow_12 rfl ?_
    refine lv_lconst (v := 0) hx hb dX12_comesNow_13 (by decide) ?_
    refine lv_ldc2 (v := 99) hx hb S.2.2.2.1 (S.2.2.2.2 _ mw_1853) dX12_comesNow_14 ?_
    obtain ⟨r_3, σ_3, τ_3, q_3, h⟩ := bd_some h
    refine gx_cSi (As := [.long x4.toInt64, .long 0, .long 99]) (rest := []) S hK gx_ok hw (c_X12_in l (E := E) N σ_1 τ_1 x4.toInt64 0 99 q_3) cw_X12_129 ⟨Nat.le_of_ble_eq_true rfl, Nat.le_of_ble_eq_true rfl⟩ rfl hl.1 rfl (Nat.le_of_ble_eq_true rfl) ⟨Nat.le_of_ble_eq_true rfl, Nat.le_of_ble_eq_true rfl⟩ dX12_comesNow_17 (fun r9 σ9 τ9 H locs hp hw => ?_)
    obtain ⟨rfl, rfl, rfl⟩ := hp
    refine lv_if_ne (tgt := 25) hx hb dX12_comesNow_20 (by decide) (fun c_4 => ?_) (fun c_4 => ?_)
    · rw [if_neg c_4] at h
      refine lv_aload_n hx hb dX12_comesNow_25 rfl (lv_at hl 0 rfl) ?_
      refine gx_getr (j := 206) S hK hw t_199 cl_13 10 (by decide) rfl mw_1424 rfl dX12_comesNow_26 ?_
      refine lv_bipush (v := 44) hx hb dX12_comesNow_29 (by decide) ?_
      refine gx_iald S hK hw t_206 44 rfl (gx_in rfl (by decide) (by decide)) dX12_comesNow_31 ?_
      refine lv_bipush (v := 6) hx hb dX12_comesNow_32 (by decide) ?_
      refine lv_icmp_ne (tgt := 40) hx hb dX12_comesNow_34 (by decide) (fun c_5 => ?_) (fun c_5 => ?_)
      · rw [if_neg c_5] at h
        refine lv_aload_n hx hb dX12_comesNow_40 rfl (lv_at hl 0 rfl) ?_
        refine lv_aload_n hx hb dX12_comesNow_41 rfl (lv_at hl 0 rfl) ?_
        refine gx_getr (j := 206) S hK hw t_199 cl_13 10 (by decide) rfl mw_1424 rfl dX12_comesNow_42 ?_
        refine lv_aload_n hx hb dX12_comesNow_45 rfl (lv_at hl 0 rfl) ?_
        refine gx_getr (j := 206) S hK hw t_199 cl_13 10 (by decide) rfl mw_1424 rfl dX12_comesNow_46 ?_
        refine lv_bipush (v := 44) hx hb dX12_comesNow_49 (by decide) ?_
        refine gx_iald S hK hw t_206 44 rfl (gx_in rfl (by decide) (by decide)) dX12_comesNow_51 ?_
        refine lv_iload_n hx hb dX12_comesNow_52 rfl (lv_at hl 1 rfl) ?_
        refine lv_iload_n hx hb dX12_comesNow_53 rfl (lv_at hl 2 rfl) ?_
        refine lv_iload_n hx hb dX12_comesNow_54 rfl (lv_at hl 3 rfl) ?_
        refine lv_iload hx hb dX12_comesNow_55 (lv_at hl 4 rfl) ?_
        obtain ⟨u_6, σ_6, τ_6, q_6, h⟩ := bd_some h
        refine gx_cVv (As := [.ref (E.2.2 + 206), .int (σ_3 206 44), .int x1, .int x2, .int x3, .int x4]) (rest := []) S hK gx_ok hw (c_X12_lays l (E := E) N 206 t_206 σ_3 τ_3 (σ_3 206 44) x1 x2 x3 x4 q_6) cw_X12_335 t_199 cl_13 ⟨Nat.le_of_ble_eq_true rfl, Nat.le_of_ble_eq_true rfl⟩ rfl hl.1 rfl (Nat.le_of_ble_eq_true rfl) ⟨Nat.le_of_ble_eq_true rfl, Nat.le_of_ble_eq_true rfl⟩ dX12_comesNow_57 (fun σ9 τ9 H locs hp hw => ?_)
        obtain ⟨rfl, rfl⟩ := hp
        refine lv_aload_n hx hb dX12_comesNow_60 rfl (lv_at hl 0 rfl) ?_
        refine gx_getr (j := 206) S hK hw t_199 cl_13 10 (by decide) rfl mw_1424 rfl dX12_comesNow_61 ?_
        refine lv_bipush (v := 44) hx hb dX12_comesNow_64 (by decide) ?_
        refine lv_dup2_11 hx hb dX12_comesNow_66 rfl rfl ?_
        refine gx_iald S hK hw t_206 44 rfl (gx_in rfl (by decide) (by decide)) dX12_comesNow_67 ?_
        refine lv_iconst (v := 1) hx hb dX12_comesNow_68 (by decide) ?_
        refine lv_iadd hx hb dX12_comesNow_69 ?_
        refine gx_iast S hK gx_ok hw t_206 44 rfl (gx_in rfl (by decide) (by decide)) dX12_comesNow_70 (fun H locs hw => ?_)
        obtain ⟨σ_7, e_7, h⟩ := nm_some h
        rw [← e_7] at hw
        refine lv_aload_n hx hb dX12_comesNow_71 rfl (lv_at hl 0 rfl) ?_
        refine gx_getr (j := 206) S hK hw t_199 cl_13 10 (by decide) rfl mw_1424 rfl dX12_comesNow_72 ?_
        refine lv_bipush (v := 44) hx hb dX12_comesNow_75 (by decide) ?_
        refine gx_iald S hK hw t_206 44 rfl (gx_in rfl (by decide) (by decide)) dX12_comesNow_77 ?_
        refine lv_iconst (v := 1) hx hb dX12_comesNow_78 (by decide) ?_
        refine lv_isub hx hb dX12_comesNow_79 ?_
        obtain ⟨rfl, rfl, rfl⟩ := sm_inj h
        exact gx_ri (post := gq_p ((σ_7 206 44) - 1) σ_7 τ_6) (v := (σ_7 206 44) - 1) S hr hlk hw rfl dX12_comesNow_80 ⟨rfl, rfl, rfl⟩
      · rw [if_pos c_5] at h
        refine lv_bipush (v := (-2)) hx hb dX12_comesNow_37 (by decide) ?_
        obtain ⟨rfl, rfl, rfl⟩ := sm_inj h
        exact gx_ri (post := gq_p (-2) σ_3 τ_3) (v := (-2)) S hr hlk hw rfl dX12_comesNow_39 ⟨rfl, rfl, rfl⟩
    · rw [if_pos c_4] at h
      refine lv_iconst (v := (-1)) hx hb dX12_comesNow_23 (by decide) ?_
      obtain ⟨rfl, rfl, rfl⟩ := sm_inj h
      exact gx_ri (post := gq_p (-1) σ_3 τ_3) (v := (-1)) S hr hlk hw rfl dX12_comesNow_24 ⟨rfl, rfl, rfl⟩
set_option maxHeartbeats 4000000 in
set_option maxRecDepth 100000 in
theorem c_X12_comesNow (l : Launch) {E : gE} (N : Nat) (σ : gI) (τ : gJ) (x1 : Int32) (x2 : Int32) (x3 : Int32) (x4 : Int32) {r : Int32} {σ1 : gI} {τ1 : gJ} (h : B_X12_comesNow_0 N σ τ x1 x2 x3 x4 = some (r, σ1, τ1)) : gx_Mi l yX12_comesNow cX12_comesNow 5 (some .int) 3 gx_tb E σ τ [.ref (E.2.2 + 199), .int x1, .int x2, .int x3, .int x4] (gq_p r σ1 τ1) := by
  refine gx_bi (by decide +kernel) (Nat.le_of_ble_eq_true rfl) ?_
  intro P9 e9 s m9 below meth C9 S hr hlk hK hw ls hl
  have hl : lv_has ls 5 [(0, .ref (E.2.2 + 199)), (1, .int x1), (2, .int x2), (3, .int x3), (4, .int x4)] := hl
  exact b_X12_comesNow_0 l S hr hlk hK N σ τ x1 x2 x3 x4 h hw hl
/-! X12_common -/
def B_X12_common_0 (me_common : gI → gJ → Int64 → Int64 → Option (Int64 × gI × gJ)) (N : Nat) (σ : gI) (τ : gJ) (x0 : Int64) (x2 : Int64) : Option (Int64 × gI × gJ) := if lg_cmp x2 0 = 0 then (some (x0, σ, τ)) else (dzl x2 <| bd (me_common σ τ x2 (x0 - x0 / x2 * x2)) fun r_3 σ_3 τ_3 => some (r_3, σ_3, τ_3))
def R_X12_common (N D : Nat) : gI → gJ → Int64 → Int64 → Option (Int64 × gI × gJ) := itn (fun me_common => B_X12_common_0 me_common N) (fun _ _ _ _ => none) D
set_option maxHeartbeats 4000000 in
set_option maxRecDepth 100000 in
theorem b_X12_common_0 (l : Launch) (dd : Nat) (me_common : gI → gJ → Int64 → Int64 → Option (Int64 × gI × gJ)) (hme_common : ∀ (σ : gI) (τ : gJ) (x0 : Int64) (x2 : Int64) (r : Int64) (σ1 : gI) (τ1 : gJ), me_common σ τ x0 x2 = some (r, σ1, τ1) → gx_Ml l yX12_common cX12_common 4 (some .long) (dd) gx_tb E σ τ [.long x0, .long x2] (gq_p r σ1 τ1)) (S : CallFix P9 m9 C9 cX12_common 4 s av.toArray gx_G RX12) (hr : meth.sig.returnType = (some .long)) (hlk : meth.locks = false) (hK : gx_K E s) (N : Nat) (σ : gI) (τ : gJ) (x0 : Int64) (x2 : Int64) {r : Int64} {σ1 : gI} {τ1 : gJ} (h : B_X12_common_0 me_common N σ τ x0 x2 = some (r, σ1, τ1)) {H : Heap} {locs : List Loc} {ls : Array Slot} (hw : gx_W gx_tb gx_tb.length E s σ τ H locs) (hl : lv_has ls 4 [(0, .long x0), (2, .long x2)]) : W P9 l e9 (gx_rm (dd + 1)) s m9 av.toArray below meth C9 H locs 0 0 (gq_Ql below av s E r σ1 τ1) (F0 m9 0 ls []) := by
  have hx := S.1
  have hb := S.2.1
  unfold B_X12_common_0 at h
  refine lv_lload_n hx hb dX12_common_0 rfl (lv_at hl 1 rfl) ?_
  refine lv_lconst (v := 0) hx hb dX12_common_1 (by decide) ?_
  refine W.lcmp hx hb dX12_common_2 ?_
  refine lv_if_ne (tgt := 10) hx hb dX12_common_3 (by decide) (fun c_1 => ?_) (fun c_1 => ?_)
  · rw [if_neg c_1] at h
    refine lv_lload_n hx hb dX12_common_10 rfl (lv_at hl 1 rfl) ?_
    refine lv_lload_n hx hb dX12_common_11 rfl (lv_at hl 0 rfl) ?_
    refine lv_lload_n hx hb dX12_common_12 rfl (lv_at hl 1 rfl) ?_
    obtain ⟨hz_2, h⟩ := dzl_some h
    refine lv_lrem hx hb dX12_common_13 hz_2 ?_
    obtain ⟨r_3, σ_3, τ_3, q_3, h⟩ := bd_some h
    refine gx_cSl (As := [.long x2, .long (x0 - x0 / x2 * x2)]) (rest := []) S hK gx_ok hw (hme_common σ τ x2 (x0 - x0 / x2 * x2) _ _ _ q_3) cw_X12_115 (gw_ok (by omega) (by omega)) rfl hl.1 rfl (Nat.le_of_ble_eq_true rfl) ⟨Nat.le_of_ble_eq_true rfl, Nat.le_of_ble_eq_true rfl⟩ dX12_common_14 (fun r9 σ9 τ9 H locs hp hw => ?_)
    obtain ⟨rfl, rfl, rfl⟩ := hp
    obtain ⟨rfl, rfl, rfl⟩ := sm_inj h
    exact gx_rl (post := gq_p r_3 σ_3 τ_3) (v := r_3) S hr hlk hw dX12_common_17 ⟨rfl, rfl, rfl⟩
  · rw [if_pos c_1] at h
    refine lv_lload_n hx hb dX12_common_6 rfl (lv_at hl 0 rfl) ?_
    refine lv_goto (tgt := 17) hx hb dX12_common_7 (by decide) ?_
    obtain ⟨rfl, rfl, rfl⟩ := sm_inj h
    exact gx_rl (post := gq_p x0 σ τ) (v := x0) S hr hlk hw dX12_common_17 ⟨rfl, rfl, rfl⟩
set_option maxHeartbeats 4000000 in
set_option maxRecDepth 100000 in
theorem c_X12_common (l : Launch) {E : gE} (N : Nat) : ∀ D : Nat, (∀ (σ : gI) (τ : gJ) (x0 : Int64) (x2 : Int64) (r : Int64) (σ1 : gI) (τ1 : gJ), (R_X12_common N D) σ τ x0 x2 = some (r, σ1, τ1) → gx_Ml l yX12_common cX12_common 4 (some .long) (1 * D) gx_tb E σ τ [.long x0, .long x2] (gq_p r σ1 τ1)) := by
  intro D
  induction D with
  | zero => exact fun σ τ x0 x2 r σ1 τ1 h => (by cases h)
  | succ D ih =>
    intro σ τ x0 x2 r σ1 τ1 h
    refine gx_bl (by decide +kernel) (Nat.le_of_ble_eq_true rfl) ?_
    intro P9 e9 s m9 below meth C9 S hr hlk hK hw ls hl
    have hl : lv_has ls 4 [(0, .long x0), (2, .long x2)] := hl
    exact b_X12_common_0 l (1 * D) ((R_X12_common N D)) (fun σ τ x0 x2 r σ1 τ1 h => ih σ τ x0 x2 r σ1 τ1 h) S hr hlk hK N σ τ x0 x2 h hw hl
/-! X12_cork -/
def B_X12_cork_38 (N : Nat) (σ : gI) (τ : gJ) (x1 : Int32) (x2 : Int32) (x3 : Int32) : Option (Int32 × gI × gJ) := if σ 199 52 = 10 then (some ((-1), σ, τ)) else (ck (σ 199 52) 10 fun j_2 => nm (up2 σ 226 j_2 x1) fun σ_3 => ck (σ_3 199 52) 10 fun j_4 => nm (up2 σ_3 227 j_4 x2) fun σ_5 => ck (σ_5 199 52) 10 fun j_6 => nm (up2 σ_5 228 j_6 x3) fun σ_7 => nm (up2 σ_7 199 52 ((σ_7 199 52) + 1)) fun σ_8 => some (σ_8 199 52, σ_8, τ))
def B_X12_cork_0 (N : Nat) (σ : gI) (τ : gJ) (x1 : Int32) (x2 : Int32) (x3 : Int32) : Option (Int32 × gI × gJ) := nm (up2 σ 199 0 0) fun σ_1 => bd (B_X12_isPlace_0 N σ_1 τ x1) fun r_2 σ_2 τ_2 => if r_2 = 0 then (some ((-1), σ_2, τ_2)) else (bd (B_X12_in_0 N σ_2 τ_2 x2.toInt64 0 999) fun r_4 σ_4 τ_4 => if r_4 = 0 then (some ((-1), σ_4, τ_4)) else (if x3 = (-1) then (B_X12_cork_38 N σ_4 τ_4 x1 x2 x3) else (bd (B_X12_isKitchen_0 N σ_4 τ_4 x3) fun r_7 σ_7 τ_7 => if r_7 = 0 then (some ((-1), σ_7, τ_7)) else (B_X12_cork_38 N σ_7 τ_7 x1 x2 x3))))
set_option maxHeartbeats 4000000 in
set_option maxRecDepth 100000 in
theorem b_X12_cork_38 (l : Launch) (S : CallFix P9 m9 C9 cX12_cork 4 s av.toArray gx_G RX12) (hr : meth.sig.returnType = (some .int)) (hlk : meth.locks = false) (hK : gx_K E s) (N : Nat) (σ : gI) (τ : gJ) (x1 : Int32) (x2 : Int32) (x3 : Int32) {r : Int32} {σ1 : gI} {τ1 : gJ} (h : B_X12_cork_38 N σ τ x1 x2 x3 = some (r, σ1, τ1)) {H : Heap} {locs : List Loc} {ls : Array Slot} (hw : gx_W gx_tb gx_tb.length E s σ τ H locs) (hl : lv_has ls 4 [(0, .ref (E.2.2 + 199)), (1, .int x1), (2, .int x2), (3, .int x3)]) : W P9 l e9 (gx_rm 3) s m9 av.toArray below meth C9 H locs 0 0 (gq_Qi below av s E r σ1 τ1) (F0 m9 38 ls []) := by
  have hx := S.1
  have hb := S.2.1
  unfold B_X12_cork_38 at h
  refine lv_aload_n hx hb dX12_cork_38 rfl (lv_at hl 0 rfl) ?_
  refine gx_get S hK hw t_199 cl_13 52 (by decide) rfl mw_1466 rfl dX12_cork_39 ?_
  refine lv_bipush (v := 10) hx hb dX12_cork_42 (by decide) ?_
  refine lv_icmp_ne (tgt := 49) hx hb dX12_cork_44 (by decide) (fun c_1 => ?_) (fun c_1 => ?_)
  · rw [if_neg c_1] at h
    refine lv_aload_n hx hb dX12_cork_49 rfl (lv_at hl 0 rfl) ?_
    refine gx_getr (j := 226) S hK hw t_199 cl_13 53 (by decide) rfl mw_1467 rfl dX12_cork_50 ?_
    refine lv_aload_n hx hb dX12_cork_53 rfl (lv_at hl 0 rfl) ?_
    refine gx_get S hK hw t_199 cl_13 52 (by decide) rfl mw_1466 rfl dX12_cork_54 ?_
    refine lv_iload_n hx hb dX12_cork_57 rfl (lv_at hl 1 rfl) ?_
    obtain ⟨j_2, hj_2, hi_2, h⟩ := ck_some h
    refine gx_iast S hK gx_ok hw t_226 j_2 hj_2 hi_2 dX12_cork_58 (fun H locs hw => ?_)
    obtain ⟨σ_3, e_3, h⟩ := nm_some h
    rw [← e_3] at hw
    refine lv_aload_n hx hb dX12_cork_59 rfl (lv_at hl 0 rfl) ?_
    refine gx_getr (j := 227) S hK hw t_199 cl_13 54 (by decide) rfl mw_1468 rfl dX12_cork_60 ?_
    refine lv_aload_n hx hb dX12_cork_63 rfl (lv_at hl 0 rfl) ?_
    refine gx_get S hK hw t_199 cl_13 52 (by decide) rfl mw_1466 rfl dX12_cork_64 ?_
    refine lv_iload_n hx hb dX12_cork_67 rfl (lv_at hl 2 rfl) ?_
    obtain ⟨j_4, hj_4, hi_4, h⟩ := ck_some h
    refine gx_iast S hK gx_ok hw t_227 j_4 hj_4 hi_4 dX12_cork_68 (fun H locs hw => ?_)
    obtain ⟨σ_5, e_5, h⟩ := nm_some h
    rw [← e_5] at hw
    refine lv_aload_n hx hb dX12_cork_69 rfl (lv_at hl 0 rfl) ?_
    refine gx_getr (j := 228) S hK hw t_199 cl_13 55 (by decide) rfl mw_1469 rfl dX12_cork_70 ?_
    refine lv_aload_n hx hb dX12_cork_73 rfl (lv_at hl 0 rfl) ?_
    refine gx_get S hK hw t_199 cl_13 52 (by decide) rfl mw_1466 rfl dX12_cork_74 ?_
    refine lv_iload_n hx hb dX12_cork_77 rfl (lv_at hl 3 rfl) ?_
    obtain ⟨j_6, hj_6, hi_6, h⟩ := ck_some h
    refine gx_iast S hK gx_ok hw t_228 j_6 hj_6 hi_6 dX12_cork_78 (fun H locs hw => ?_)
    obtain ⟨σ_7, e_7, h⟩ := nm_some h
    rw [← e_7] at hw
    refine lv_aload_n hx hb dX12_cork_79 rfl (lv_at hl 0 rfl) ?_
    refine lv_dup hx hb dX12_cork_80 rfl ?_
    refine gx_get S hK hw t_199 cl_13 52 (by decide) rfl mw_1466 rfl dX12_cork_81 ?_
    refine lv_iconst (v := 1) hx hb dX12_cork_84 (by decide) ?_
    refine lv_iadd hx hb dX12_cork_85 ?_
    refine gx_put S hK gx_ok hw t_199 cl_13 52 (by decide) rfl mw_1466 rfl rfl (ty := .int) (v := (σ_7 199 52) + 1) (by decide +kernel) rfl rfl dX12_cork_86 (fun H locs hw => ?_)
    obtain ⟨σ_8, e_8, h⟩ := nm_some h
    rw [← e_8] at hw
    refine lv_aload_n hx hb dX12_cork_89 rfl (lv_at hl 0 rfl) ?_
    refine gx_get S hK hw t_199 cl_13 52 (by decide) rfl mw_1466 rfl dX12_cork_90 ?_
    obtain ⟨rfl, rfl, rfl⟩ := sm_inj h
    exact gx_ri (post := gq_p (σ_8 199 52) σ_8 τ) (v := σ_8 199 52) S hr hlk hw rfl dX12_cork_93 ⟨rfl, rfl, rfl⟩
  · rw [if_pos c_1] at h
    refine lv_iconst (v := (-1)) hx hb dX12_cork_47 (by decide) ?_
    obtain ⟨rfl, rfl, rfl⟩ := sm_inj h
    exact gx_ri (post := gq_p (-1) σ τ) (v := (-1)) S hr hlk hw rfl dX12_cork_48 ⟨rfl, rfl, rfl⟩
set_option maxHeartbeats 4000000 in
set_option maxRecDepth 100000 in
theorem b_X12_cork_0 (l : Launch) (S : CallFix P9 m9 C9 cX12_cork 4 s av.toArray gx_G RX12) (hr : meth.sig.returnType = (some .int)) (hlk : meth.locks = false) (hK : gx_K E s) (N : Nat) (σ : gI) (τ : gJ) (x1 : Int32) (x2 : Int32) (x3 : Int32) {r : Int32} {σ1 : gI} {τ1 : gJ} (h : B_X12_cork_0 N σ τ x1 x2 x3 = some (r, σ1, τ1)) {H : Heap} {locs : List Loc} {ls : Array Slot} (hw : gx_W gx_tb gx_tb.length E s σ τ H locs) (hl : lv_has ls 4 [(0, .ref (E.2.2 + 199)), (1, .int x1), (2, .int x2), (3, .int x3)]) : W P9 l e9 (gx_rm 3) s m9 av.toArray below meth C9 H locs 0 0 (gq_Qi below av s E r σ1 τ1) (F0 m9 0 ls []) := by
  have hx := S.1
  have hb := S.2.1
  unfold B_X12_cork_0 at h
  refine lv_aload_n hx hb dX12_cork_0 rfl (lv_at hl 0 rfl) ?_
  refine lv_iconst (v := 0) hx hb dX12_cork_1 (by decide) ?_
  refine gx_put S hK gx_ok hw t_199 cl_13 0 (by decide) rfl mw_1414 rfl rfl (ty := .int) (v := 0) (by decide +kernel) rfl rfl dX12_cork_2 (fun H locs hw => ?_)
  obtain ⟨σ_1, e_1, h⟩ := nm_some h
  rw [← e_1] at hw
  refine lv_aload_n hx hb dX12_cork_5 rfl (lv_at hl 0 rfl) ?_
  refine lv_iload_n hx hb dX12_cork_6 rfl (lv_at hl 1 rfl) ?_
  obtain ⟨r_2, σ_2, τ_2, q_2, h⟩ := bd_some h
  refine gx_cVi (As := [.int x1]) (rest := []) S hK gx_ok hw (c_X12_isPlace l (E := E) N σ_1 τ x1 q_2) cw_X12_133 t_199 cl_13 ⟨Nat.le_of_ble_eq_true rfl, Nat.le_of_ble_eq_true rfl⟩ rfl hl.1 rfl (Nat.le_of_ble_eq_true rfl) ⟨Nat.le_of_ble_eq_true rfl, Nat.le_of_ble_eq_true rfl⟩ dX12_cork_7 (fun r9 σ9 τ9 H locs hp hw => ?_)
  obtain ⟨rfl, rfl, rfl⟩ := hp
  refine lv_if_eq (tgt := 47) hx hb dX12_cork_10 (by decide) (fun c_3 => ?_) (fun c_3 => ?_)
  · rw [if_pos c_3] at h
    refine lv_iconst (v := (-1)) hx hb dX12_cork_47 (by decide) ?_
    obtain ⟨rfl, rfl, rfl⟩ := sm_inj h
    exact gx_ri (post := gq_p (-1) σ_2 τ_2) (v := (-1)) S hr hlk hw rfl dX12_cork_48 ⟨rfl, rfl, rfl⟩
  · rw [if_neg c_3] at h
    refine lv_iload_n hx hb dX12_cork_13 rfl (lv_at hl 2 rfl) ?_
    refine lv_i2l (v := x2.toInt64) hx hb dX12_cork_14 rfl ?_
    refine lv_lconst (v := 0) hx hb dX12_cork_15 (by decide) ?_
    refine lv_ldc2 (v := 999) hx hb S.2.2.2.1 (S.2.2.2.2 _ mw_2043) dX12_cork_16 ?_
    obtain ⟨r_4, σ_4, τ_4, q_4, h⟩ := bd_some h
    refine gx_cSi (As := [.long x2.toInt64, .long 0, .long 999]) (rest := []) S hK gx_ok hw (c_X12_in l (E := E) N σ_2 τ_2 x2.toInt64 0 999 q_4) cw_X12_129 ⟨Nat.le_of_ble_eq_true rfl, Nat.le_of_ble_eq_true rfl⟩ rfl hl.1 rfl (Nat.le_of_ble_eq_true rfl) ⟨Nat.le_of_ble_eq_true rfl, Nat.le_of_ble_eq_true rfl⟩ dX12_cork_19 (fun r9 σ9 τ9 H locs hp hw => ?_)
    obtain ⟨rfl, rfl, rfl⟩ := hp
    refine lv_if_eq (tgt := 47) hx hb dX12_cork_22 (by decide) (fun c_5 => ?_) (fun c_5 => ?_)
    · rw [if_pos c_5] at h
      refine lv_iconst (v := (-1)) hx hb dX12_cork_47 (by decide) ?_
      obtain ⟨rfl, rfl, rfl⟩ := sm_inj h
      exact gx_ri (post := gq_p (-1) σ_4 τ_4) (v := (-1)) S hr hlk hw rfl dX12_cork_48 ⟨rfl, rfl, rfl⟩
    · rw [if_neg c_5] at h
      refine lv_iload_n hx hb dX12_cork_25 rfl (lv_at hl 3 rfl) ?_
      refine lv_iconst (v := (-1)) hx hb dX12_cork_26 (by decide) ?_
      refine lv_icmp_eq (tgt := 38) hx hb dX12_cork_27 (by decide) (fun c_6 => ?_) (fun c_6 => ?_)
      · rw [if_pos c_6] at h
        exact b_X12_cork_38 l S hr hlk hK N σ_4 τ_4 x1 x2 x3 h hw (lv_sub hl [0, 1, 2, 3] rfl)
      · rw [if_neg c_6] at h
        refine lv_aload_n hx hb dX12_cork_30 rfl (lv_at hl 0 rfl) ?_
        refine lv_iload_n hx hb dX12_cork_31 rfl (lv_at hl 3 rfl) ?_
        obtain ⟨r_7, σ_7, τ_7, q_7, h⟩ := bd_some h
        refine gx_cVi (As := [.int x3]) (rest := []) S hK gx_ok hw (c_X12_isKitchen l (E := E) N σ_4 τ_4 x3 q_7) cw_X12_402 t_199 cl_13 ⟨Nat.le_of_ble_eq_true rfl, Nat.le_of_ble_eq_true rfl⟩ rfl hl.1 rfl (Nat.le_of_ble_eq_true rfl) ⟨Nat.le_of_ble_eq_true rfl, Nat.le_of_ble_eq_true rfl⟩ dX12_cork_32 (fun r9 σ9 τ9 H locs hp hw => ?_)
        obtain ⟨rfl, rfl, rfl⟩ := hp
        refine lv_if_eq (tgt := 47) hx hb dX12_cork_35 (by decide) (fun c_8 => ?_) (fun c_8 => ?_)
        · rw [if_pos c_8] at h
          refine lv_iconst (v := (-1)) hx hb dX12_cork_47 (by decide) ?_
          obtain ⟨rfl, rfl, rfl⟩ := sm_inj h
          exact gx_ri (post := gq_p (-1) σ_7 τ_7) (v := (-1)) S hr hlk hw rfl dX12_cork_48 ⟨rfl, rfl, rfl⟩
        · rw [if_neg c_8] at h
          exact b_X12_cork_38 l S hr hlk hK N σ_7 τ_7 x1 x2 x3 h hw (lv_sub hl [0, 1, 2, 3] rfl)
set_option maxHeartbeats 4000000 in
set_option maxRecDepth 100000 in
theorem c_X12_cork (l : Launch) {E : gE} (N : Nat) (σ : gI) (τ : gJ) (x1 : Int32) (x2 : Int32) (x3 : Int32) {r : Int32} {σ1 : gI} {τ1 : gJ} (h : B_X12_cork_0 N σ τ x1 x2 x3 = some (r, σ1, τ1)) : gx_Mi l yX12_cork cX12_cork 4 (some .int) 3 gx_tb E σ τ [.ref (E.2.2 + 199), .int x1, .int x2, .int x3] (gq_p r σ1 τ1) := by
  refine gx_bi (by decide +kernel) (Nat.le_of_ble_eq_true rfl) ?_
  intro P9 e9 s m9 below meth C9 S hr hlk hK hw ls hl
  have hl : lv_has ls 4 [(0, .ref (E.2.2 + 199)), (1, .int x1), (2, .int x2), (3, .int x3)] := hl
  exact b_X12_cork_0 l S hr hlk hK N σ τ x1 x2 x3 h hw hl
/-! X12_forks -/
def C_X12_forks_4 (N : Nat) (rec_4 : gI → gJ → Int32 → Int32 → Option (Int32 × gI × gJ)) (σ : gI) (τ : gJ) (x1 : Int32) (x2 : Int32) : Option (Int32 × gI × gJ) := if σ 199 3 ≤ x2 then (some (x1, σ, τ)) else (ck x2 12 fun j_2 => if σ 201 j_2 = 1 then (nm (x1 ||| (1 <<< (x2 &&& 31))) fun v_6 => nm (x2 + 1) fun v_7 => rec_4 σ τ v_6 v_7) else (nm (x1 ||| 0) fun v_4 => nm (x2 + 1) fun v_5 => rec_4 σ τ v_4 v_5))
def H_X12_forks_4 (N : Nat) : Nat → gI → gJ → Int32 → Int32 → Option (Int32 × gI × gJ) := itn (fun rec_4 => C_X12_forks_4 N rec_4) (fun _ _ _ _ => none)
def B_X12_forks_0 (N : Nat) (σ : gI) (τ : gJ) : Option (Int32 × gI × gJ) := H_X12_forks_4 N N σ τ 0 0
set_option maxHeartbeats 4000000 in
set_option maxRecDepth 100000 in
theorem k_X12_forks_4 (l : Launch) (S : CallFix P9 m9 C9 cX12_forks 3 s av.toArray gx_G RX12) (hr : meth.sig.returnType = (some .int)) (hlk : meth.locks = false) (hK : gx_K E s) (N : Nat) (rec_4 : gI → gJ → Int32 → Int32 → Option (Int32 × gI × gJ)) (hrec_4 : ∀ (σ : gI) (τ : gJ) (x1 : Int32) (x2 : Int32) (r : Int32) (σ1 : gI) (τ1 : gJ) (H : Heap) (locs : List Loc) (ls : Array Slot), rec_4 σ τ x1 x2 = some (r, σ1, τ1) → gx_W gx_tb gx_tb.length E s σ τ H locs → lv_has ls 3 [(0, .ref (E.2.2 + 199)), (1, .int x1), (2, .int x2)] → W P9 l e9 (gx_rm 0) s m9 av.toArray below meth C9 H locs 0 0 (gq_Qi below av s E r σ1 τ1) (F0 m9 4 ls [])) (σ : gI) (τ : gJ) (x1 : Int32) (x2 : Int32) {r : Int32} {σ1 : gI} {τ1 : gJ} (h : C_X12_forks_4 N rec_4 σ τ x1 x2 = some (r, σ1, τ1)) {H : Heap} {locs : List Loc} {ls : Array Slot} (hw : gx_W gx_tb gx_tb.length E s σ τ H locs) (hl : lv_has ls 3 [(0, .ref (E.2.2 + 199)), (1, .int x1), (2, .int x2)]) : W P9 l e9 (gx_rm 0) s m9 av.toArray below meth C9 H locs 0 0 (gq_Qi below av s E r σ1 τ1) (F0 m9 4 ls []) := by
  have hx := S.1
  have hb := S.2.1
  unfold C_X12_forks_4 at h
  refine lv_iload_n hx hb dX12_forks_4 rfl (lv_at hl 2 rfl) ?_
  refine lv_aload_n hx hb dX12_forks_5 rfl (lv_at hl 0 rfl) ?_
  refine gx_get S hK hw t_199 cl_13 3 (by decide) rfl mw_1417 rfl dX12_forks_6 ?_
  refine lv_icmp_ge (tgt := 38) hx hb dX12_forks_9 (by decide) (fun c_1 => ?_) (fun c_1 => ?_)
  · rw [if_pos c_1] at h
    refine lv_iload_n hx hb dX12_forks_38 rfl (lv_at hl 1 rfl) ?_
    obtain ⟨rfl, rfl, rfl⟩ := sm_inj h
    exact gx_ri (post := gq_p x1 σ τ) (v := x1) S hr hlk hw rfl dX12_forks_39 ⟨rfl, rfl, rfl⟩
  · rw [if_neg c_1] at h
    refine lv_iload_n hx hb dX12_forks_12 rfl (lv_at hl 1 rfl) ?_
    refine lv_aload_n hx hb dX12_forks_13 rfl (lv_at hl 0 rfl) ?_
    refine gx_getr (j := 201) S hK hw t_199 cl_13 5 (by decide) rfl mw_1419 rfl dX12_forks_14 ?_
    refine lv_iload_n hx hb dX12_forks_17 rfl (lv_at hl 2 rfl) ?_
    obtain ⟨j_2, hj_2, hi_2, h⟩ := ck_some h
    refine gx_iald S hK hw t_201 j_2 hj_2 hi_2 dX12_forks_18 ?_
    refine lv_iconst (v := 1) hx hb dX12_forks_19 (by decide) ?_
    refine lv_icmp_ne (tgt := 29) hx hb dX12_forks_20 (by decide) (fun c_3 => ?_) (fun c_3 => ?_)
    · rw [if_neg c_3] at h
      refine lv_iconst (v := 0) hx hb dX12_forks_29 (by decide) ?_
      refine lv_ior hx hb dX12_forks_30 ?_
      refine lv_istore_n (lv' := [(1, .int (x1 ||| 0)), (0, .ref (E.2.2 + 199)), (2, .int x2)]) hx hb dX12_forks_31 rfl hl (by decide) rfl (fun ls hl => ?_)
      obtain ⟨v_4, e_4, h⟩ := nm_some h
      have hl : lv_has ls 3 [(1, .int v_4), (0, .ref (E.2.2 + 199)), (2, .int x2)] := by rw [e_4]; exact hl
      refine lv_iinc (v := x2 + 1) (lv' := [(2, .int (x2 + 1)), (1, .int v_4), (0, .ref (E.2.2 + 199))]) hx hb dX12_forks_32 hl (k := 2) rfl rfl (by decide) rfl (fun ls hl => ?_)
      obtain ⟨v_5, e_5, h⟩ := nm_some h
      have hl : lv_has ls 3 [(2, .int v_5), (1, .int v_4), (0, .ref (E.2.2 + 199))] := by rw [e_5]; exact hl
      refine lv_goto (tgt := 4) hx hb dX12_forks_35 (by decide) ?_
      exact hrec_4 σ τ v_4 v_5 _ _ _ _ _ _ h hw (lv_sub hl [2, 1, 0] rfl)
    · rw [if_pos c_3] at h
      refine lv_iconst (v := 1) hx hb dX12_forks_23 (by decide) ?_
      refine lv_iload_n hx hb dX12_forks_24 rfl (lv_at hl 2 rfl) ?_
      refine lv_ishl hx hb dX12_forks_25 ?_
      refine lv_goto (tgt := 30) hx hb dX12_forks_26 (by decide) ?_
      refine lv_ior hx hb dX12_forks_30 ?_
      refine lv_istore_n (lv' := [(1, .int (x1 ||| (1 <<< (x2 &&& 31)))), (0, .ref (E.2.2 + 199)), (2, .int x2)]) hx hb dX12_forks_31 rfl hl (by decide) rfl (fun ls hl => ?_)
      obtain ⟨v_6, e_6, h⟩ := nm_some h
      have hl : lv_has ls 3 [(1, .int v_6), (0, .ref (E.2.2 + 199)), (2, .int x2)] := by rw [e_6]; exact hl
      refine lv_iinc (v := x2 + 1) (lv' := [(2, .int (x2 + 1)), (1, .int v_6), (0, .ref (E.2.2 + 199))]) hx hb dX12_forks_32 hl (k := 2) rfl rfl (by decide) rfl (fun ls hl => ?_)
      obtain ⟨v_7, e_7, h⟩ := nm_some h
      have hl : lv_has ls 3 [(2, .int v_7), (1, .int v_6), (0, .ref (E.2.2 + 199))] := by rw [e_7]; exact hl
      refine lv_goto (tgt := 4) hx hb dX12_forks_35 (by decide) ?_
      exact hrec_4 σ τ v_6 v_7 _ _ _ _ _ _ h hw (lv_sub hl [2, 1, 0] rfl)
set_option maxHeartbeats 4000000 in
set_option maxRecDepth 100000 in
theorem h_X12_forks_4 (l : Launch) (S : CallFix P9 m9 C9 cX12_forks 3 s av.toArray gx_G RX12) (hr : meth.sig.returnType = (some .int)) (hlk : meth.locks = false) (hK : gx_K E s) (N : Nat) : ∀ (n : Nat) (σ : gI) (τ : gJ) (x1 : Int32) (x2 : Int32) (r : Int32) (σ1 : gI) (τ1 : gJ), H_X12_forks_4 N n σ τ x1 x2 = some (r, σ1, τ1) → ∀ (H : Heap) (locs : List Loc) (ls : Array Slot), gx_W gx_tb gx_tb.length E s σ τ H locs → lv_has ls 3 [(0, .ref (E.2.2 + 199)), (1, .int x1), (2, .int x2)] → W P9 l e9 (gx_rm 0) s m9 av.toArray below meth C9 H locs 0 0 (gq_Qi below av s E r σ1 τ1) (F0 m9 4 ls []) := by
  intro n
  induction n with
  | zero => intro σ τ x1 x2 r σ1 τ1 h; cases h
  | succ n ih =>
    intro σ τ x1 x2 r σ1 τ1 h H locs ls hw hl
    exact k_X12_forks_4 l S hr hlk hK N (H_X12_forks_4 N n) (fun σ τ x1 x2 r σ1 τ1 H locs ls h hw hl => ih σ τ x1 x2 r σ1 τ1 h H locs ls hw hl) σ τ x1 x2 h hw hl
set_option maxHeartbeats 4000000 in
set_option maxRecDepth 100000 in
theorem b_X12_forks_0 (l : Launch) (S : CallFix P9 m9 C9 cX12_forks 3 s av.toArray gx_G RX12) (hr : meth.sig.returnType = (some .int)) (hlk : meth.locks = false) (hK : gx_K E s) (N : Nat) (σ : gI) (τ : gJ) {r : Int32} {σ1 : gI} {τ1 : gJ} (h : B_X12_forks_0 N σ τ = some (r, σ1, τ1)) {H : Heap} {locs : List Loc} {ls : Array Slot} (hw : gx_W gx_tb gx_tb.length E s σ τ H locs) (hl : lv_has ls 3 [(0, .ref (E.2.2 + 199))]) : W P9 l e9 (gx_rm 0) s m9 av.toArray below meth C9 H locs 0 0 (gq_Qi below av s E r σ1 τ1) (F0 m9 0 ls []) := by
  have hx := S.1
  have hb := S.2.1
  unfold B_X12_forks_0 at h
  refine lv_iconst (v := 0) hx hb dX12_forks_0 (by decide) ?_
  refine lv_istore_n (lv' := [(1, .int 0), (0, .ref (E.2.2 + 199))]) hx hb dX12_forks_1 rfl hl (by decide) rfl (fun ls hl => ?_)
  refine lv_iconst (v := 0) hx hb dX12_forks_2 (by decide) ?_
  refine lv_istore_n (lv' := [(2, .int 0), (1, .int 0), (0, .ref (E.2.2 + 199))]) hx hb dX12_forks_3 rfl hl (by decide) rfl (fun ls hl => ?_)
  exact h_X12_forks_4 l S hr hlk hK N N σ τ 0 0 _ _ _ h _ _ _ hw (lv_sub hl [2, 1, 0] rfl)
set_option maxHeartbeats 4000000 in
set_option maxRecDepth 100000 in
theorem c_X12_forks (l : Launch) {E : gE} (N : Nat) (σ : gI) (τ : gJ) {r : Int32} {σ1 : gI} {τ1 : gJ} (h : B_X12_forks_0 N σ τ = some (r, σ1, τ1)) : gx_Mi l yX12_forks cX12_forks 3 (some .int) 0 gx_tb E σ τ [.ref (E.2.2 + 199)] (gq_p r σ1 τ1) := by
  refine gx_bi (by decide +kernel) (Nat.le_of_ble_eq_true rfl) ?_
  intro P9 e9 s m9 below meth C9 S hr hlk hK hw ls hl
  have hl : lv_has ls 3 [(0, .ref (E.2.2 + 199))] := hl
  exact b_X12_forks_0 l S hr hlk hK N σ τ h hw hl
/-! X12_thoseHow -/
def C_X12_thoseHow_4 (N : Nat) (q : Nat) (rec_4 : gI → gJ → Int32 → Int32 → Int32 → Option (Int32 × gI × gJ)) (σ : gI) (τ : gJ) (x1 : Int32) (x2 : Int32) (x3 : Int32) : Option (Int32 × gI × gJ) := if σ q 44 ≤ x3 then (some (x2, σ, τ)) else (ck ((7 * x3) + 4) 45 fun j_2 => if σ q j_2 = x1 then (nm (x2 ||| (1 <<< (x3 &&& 31))) fun v_6 => nm (x3 + 1) fun v_7 => rec_4 σ τ x1 v_6 v_7) else (nm (x2 ||| 0) fun v_4 => nm (x3 + 1) fun v_5 => rec_4 σ τ x1 v_4 v_5))
def H_X12_thoseHow_4 (N : Nat) (q : Nat) : Nat → gI → gJ → Int32 → Int32 → Int32 → Option (Int32 × gI × gJ) := itn (fun rec_4 => C_X12_thoseHow_4 N q rec_4) (fun _ _ _ _ _ => none)
def B_X12_thoseHow_0 (N : Nat) (q : Nat) (σ : gI) (τ : gJ) (x1 : Int32) : Option (Int32 × gI × gJ) := H_X12_thoseHow_4 N q N σ τ x1 0 0
set_option maxHeartbeats 4000000 in
set_option maxRecDepth 100000 in
theorem k_X12_thoseHow_4 (l : Launch) (S : CallFix P9 m9 C9 cX12_thoseHow 4 s av.toArray gx_G RX12) (hr : meth.sig.returnType = (some .int)) (hlk : meth.locks = false) (hK : gx_K E s) (N : Nat) (q : Nat) (tq : gx_tb[q]? = some (.inr (0, 45, []))) (rec_4 : gI → gJ → Int32 → Int32 → Int32 → Option (Int32 × gI × gJ)) (hrec_4 : ∀ (σ : gI) (τ : gJ) (x1 : Int32) (x2 : Int32) (x3 : Int32) (r : Int32) (σ1 : gI) (τ1 : gJ) (H : Heap) (locs : List Loc) (ls : Array Slot), rec_4 σ τ x1 x2 x3 = some (r, σ1, τ1) → gx_W gx_tb gx_tb.length E s σ τ H locs → lv_has ls 4 [(0, .ref (E.2.2 + q)), (1, .int x1), (2, .int x2), (3, .int x3)] → W P9 l e9 (gx_rm 0) s m9 av.toArray below meth C9 H locs 0 0 (gq_Qi below av s E r σ1 τ1) (F0 m9 4 ls [])) (σ : gI) (τ : gJ) (x1 : Int32) (x2 : Int32) (x3 : Int32) {r : Int32} {σ1 : gI} {τ1 : gJ} (h : C_X12_thoseHow_4 N q rec_4 σ τ x1 x2 x3 = some (r, σ1, τ1)) {H : Heap} {locs : List Loc} {ls : Array Slot} (hw : gx_W gx_tb gx_tb.length E s σ τ H locs) (hl : lv_has ls 4 [(0, .ref (E.2.2 + q)), (1, .int x1), (2, .int x2), (3, .int x3)]) : W P9 l e9 (gx_rm 0) s m9 av.toArray below meth C9 H locs 0 0 (gq_Qi below av s E r σ1 τ1) (F0 m9 4 ls []) := by
  have hx := S.1
  have hb := S.2.1
  unfold C_X12_thoseHow_4 at h
  refine lv_iload_n hx hb dX12_thoseHow_4 rfl (lv_at hl 3 rfl) ?_
  refine lv_aload_n hx hb dX12_thoseHow_5 rfl (lv_at hl 0 rfl) ?_
  refine lv_bipush (v := 44) hx hb dX12_thoseHow_6 (by decide) ?_
  refine gx_iald S hK hw tq 44 rfl (gx_in rfl (by decide) (by decide)) dX12_thoseHow_8 ?_
  refine lv_icmp_ge (tgt := 40) hx hb dX12_thoseHow_9 (by decide) (fun c_1 => ?_) (fun c_1 => ?_)
  · rw [if_pos c_1] at h
    refine lv_iload_n hx hb dX12_thoseHow_40 rfl (lv_at hl 2 rfl) ?_
    obtain ⟨rfl, rfl, rfl⟩ := sm_inj h
    exact gx_ri (post := gq_p x2 σ τ) (v := x2) S hr hlk hw rfl dX12_thoseHow_41 ⟨rfl, rfl, rfl⟩
  · rw [if_neg c_1] at h
    refine lv_iload_n hx hb dX12_thoseHow_12 rfl (lv_at hl 2 rfl) ?_
    refine lv_aload_n hx hb dX12_thoseHow_13 rfl (lv_at hl 0 rfl) ?_
    refine lv_bipush (v := 7) hx hb dX12_thoseHow_14 (by decide) ?_
    refine lv_iload_n hx hb dX12_thoseHow_16 rfl (lv_at hl 3 rfl) ?_
    refine lv_imul hx hb dX12_thoseHow_17 ?_
    refine lv_iconst (v := 4) hx hb dX12_thoseHow_18 (by decide) ?_
    refine lv_iadd hx hb dX12_thoseHow_19 ?_
    obtain ⟨j_2, hj_2, hi_2, h⟩ := ck_some h
    refine gx_iald S hK hw tq j_2 hj_2 hi_2 dX12_thoseHow_20 ?_
    refine lv_iload_n hx hb dX12_thoseHow_21 rfl (lv_at hl 1 rfl) ?_
    refine lv_icmp_ne (tgt := 31) hx hb dX12_thoseHow_22 (by decide) (fun c_3 => ?_) (fun c_3 => ?_)
    · rw [if_neg c_3] at h
      refine lv_iconst (v := 0) hx hb dX12_thoseHow_31 (by decide) ?_
      refine lv_ior hx hb dX12_thoseHow_32 ?_
      refine lv_istore_n (lv' := [(2, .int (x2 ||| 0)), (0, .ref (E.2.2 + q)), (1, .int x1), (3, .int x3)]) hx hb dX12_thoseHow_33 rfl hl (by decide) rfl (fun ls hl => ?_)
      obtain ⟨v_4, e_4, h⟩ := nm_some h
      have hl : lv_has ls 4 [(2, .int v_4), (0, .ref (E.2.2 + q)), (1, .int x1), (3, .int x3)] := by rw [e_4]; exact hl
      refine lv_iinc (v := x3 + 1) (lv' := [(3, .int (x3 + 1)), (2, .int v_4), (0, .ref (E.2.2 + q)), (1, .int x1)]) hx hb dX12_thoseHow_34 hl (k := 3) rfl rfl (by decide) rfl (fun ls hl => ?_)
      obtain ⟨v_5, e_5, h⟩ := nm_some h
      have hl : lv_has ls 4 [(3, .int v_5), (2, .int v_4), (0, .ref (E.2.2 + q)), (1, .int x1)] := by rw [e_5]; exact hl
      refine lv_goto (tgt := 4) hx hb dX12_thoseHow_37 (by decide) ?_
      exact hrec_4 σ τ x1 v_4 v_5 _ _ _ _ _ _ h hw (lv_sub hl [2, 3, 1, 0] rfl)
    · rw [if_pos c_3] at h
      refine lv_iconst (v := 1) hx hb dX12_thoseHow_25 (by decide) ?_
      refine lv_iload_n hx hb dX12_thoseHow_26 rfl (lv_at hl 3 rfl) ?_
      refine lv_ishl hx hb dX12_thoseHow_27 ?_
      refine lv_goto (tgt := 32) hx hb dX12_thoseHow_28 (by decide) ?_
      refine lv_ior hx hb dX12_thoseHow_32 ?_
      refine lv_istore_n (lv' := [(2, .int (x2 ||| (1 <<< (x3 &&& 31)))), (0, .ref (E.2.2 + q)), (1, .int x1), (3, .int x3)]) hx hb dX12_thoseHow_33 rfl hl (by decide) rfl (fun ls hl => ?_)
      obtain ⟨v_6, e_6, h⟩ := nm_some h
      have hl : lv_has ls 4 [(2, .int v_6), (0, .ref (E.2.2 + q)), (1, .int x1), (3, .int x3)] := by rw [e_6]; exact hl
      refine lv_iinc (v := x3 + 1) (lv' := [(3, .int (x3 + 1)), (2, .int v_6), (0, .ref (E.2.2 + q)), (1, .int x1)]) hx hb dX12_thoseHow_34 hl (k := 3) rfl rfl (by decide) rfl (fun ls hl => ?_)
      obtain ⟨v_7, e_7, h⟩ := nm_some h
      have hl : lv_has ls 4 [(3, .int v_7), (2, .int v_6), (0, .ref (E.2.2 + q)), (1, .int x1)] := by rw [e_7]; exact hl
      refine lv_goto (tgt := 4) hx hb dX12_thoseHow_37 (by decide) ?_
      exact hrec_4 σ τ x1 v_6 v_7 _ _ _ _ _ _ h hw (lv_sub hl [2, 3, 1, 0] rfl)
set_option maxHeartbeats 4000000 in
set_option maxRecDepth 100000 in
theorem h_X12_thoseHow_4 (l : Launch) (S : CallFix P9 m9 C9 cX12_thoseHow 4 s av.toArray gx_G RX12) (hr : meth.sig.returnType = (some .int)) (hlk : meth.locks = false) (hK : gx_K E s) (N : Nat) (q : Nat) (tq : gx_tb[q]? = some (.inr (0, 45, []))) : ∀ (n : Nat) (σ : gI) (τ : gJ) (x1 : Int32) (x2 : Int32) (x3 : Int32) (r : Int32) (σ1 : gI) (τ1 : gJ), H_X12_thoseHow_4 N q n σ τ x1 x2 x3 = some (r, σ1, τ1) → ∀ (H : Heap) (locs : List Loc) (ls : Array Slot), gx_W gx_tb gx_tb.length E s σ τ H locs → lv_has ls 4 [(0, .ref (E.2.2 + q)), (1, .int x1), (2, .int x2), (3, .int x3)] → W P9 l e9 (gx_rm 0) s m9 av.toArray below meth C9 H locs 0 0 (gq_Qi below av s E r σ1 τ1) (F0 m9 4 ls []) := by
  intro n
  induction n with
  | zero => intro σ τ x1 x2 x3 r σ1 τ1 h; cases h
  | succ n ih =>
    intro σ τ x1 x2 x3 r σ1 τ1 h H locs ls hw hl
    exact k_X12_thoseHow_4 l S hr hlk hK N q tq (H_X12_thoseHow_4 N q n) (fun σ τ x1 x2 x3 r σ1 τ1 H locs ls h hw hl => ih σ τ x1 x2 x3 r σ1 τ1 h H locs ls hw hl) σ τ x1 x2 x3 h hw hl
set_option maxHeartbeats 4000000 in
set_option maxRecDepth 100000 in
theorem b_X12_thoseHow_0 (l : Launch) (S : CallFix P9 m9 C9 cX12_thoseHow 4 s av.toArray gx_G RX12) (hr : meth.sig.returnType = (some .int)) (hlk : meth.locks = false) (hK : gx_K E s) (N : Nat) (q : Nat) (tq : gx_tb[q]? = some (.inr (0, 45, []))) (σ : gI) (τ : gJ) (x1 : Int32) {r : Int32} {σ1 : gI} {τ1 : gJ} (h : B_X12_thoseHow_0 N q σ τ x1 = some (r, σ1, τ1)) {H : Heap} {locs : List Loc} {ls : Array Slot} (hw : gx_W gx_tb gx_tb.length E s σ τ H locs) (hl : lv_has ls 4 [(0, .ref (E.2.2 + q)), (1, .int x1)]) : W P9 l e9 (gx_rm 0) s m9 av.toArray below meth C9 H locs 0 0 (gq_Qi below av s E r σ1 τ1) (F0 m9 0 ls []) := by
  have hx := S.1
  have hb := S.2.1
  unfold B_X12_thoseHow_0 at h
  refine lv_iconst (v := 0) hx hb dX12_thoseHow_0 (by decide) ?_
  refine lv_istore_n (lv' := [(2, .int 0), (0, .ref (E.2.2 + q)), (1, .int x1)]) hx hb dX12_thoseHow_1 rfl hl (by decide) rfl (fun ls hl => ?_)
  refine lv_iconst (v := 0) hx hb dX12_thoseHow_2 (by decide) ?_
  refine lv_istore_n (lv' := [(3, .int 0), (2, .int 0), (0, .ref (E.2.2 + q)), (1, .int x1)]) hx hb dX12_thoseHow_3 rfl hl (by decide) rfl (fun ls hl => ?_)
  exact h_X12_thoseHow_4 l S hr hlk hK N q tq N σ τ x1 0 0 _ _ _ h _ _ _ hw (lv_sub hl [2, 3, 1, 0] rfl)
set_option maxHeartbeats 4000000 in
set_option maxRecDepth 100000 in
theorem c_X12_thoseHow (l : Launch) {E : gE} (N : Nat) (q : Nat) (tq : gx_tb[q]? = some (.inr (0, 45, []))) (σ : gI) (τ : gJ) (x1 : Int32) {r : Int32} {σ1 : gI} {τ1 : gJ} (h : B_X12_thoseHow_0 N q σ τ x1 = some (r, σ1, τ1)) : gx_Mi l yX12_thoseHow cX12_thoseHow 4 (some .int) 0 gx_tb E σ τ [.ref (E.2.2 + q), .int x1] (gq_p r σ1 τ1) := by
  refine gx_bi (by decide +kernel) (Nat.le_of_ble_eq_true rfl) ?_
  intro P9 e9 s m9 below meth C9 S hr hlk hK hw ls hl
  have hl : lv_has ls 4 [(0, .ref (E.2.2 + q)), (1, .int x1)] := hl
  exact b_X12_thoseHow_0 l S hr hlk hK N q tq σ τ x1 h hw hl
/-! X12_count -/
def B_X12_count_0 (N : Nat) (σ : gI) (τ : gJ) (x1 : Int32) : Option (Int32 × gI × gJ) := nm (up2 σ 199 0 0) fun σ_1 => if x1 = 0 then (some (σ_1 199 3, σ_1, τ)) else if x1 = 1 then (some (σ_1 206 44, σ_1, τ)) else if x1 = 2 then (some (σ_1 206 43, σ_1, τ)) else if x1 = 3 then (bd (B_X12_forks_0 N σ_1 τ) fun r_6 σ_6 τ_6 => some (r_6, σ_6, τ_6)) else if x1 = 4 then (some (σ_1 206 42, σ_1, τ)) else if x1 = 5 then (bd (B_X12_thoseHow_0 N 206 σ_1 τ 0) fun r_9 σ_9 τ_9 => some (r_9, σ_9, τ_9)) else if x1 = 6 then (bd (B_X12_thoseHow_0 N 206 σ_1 τ 1) fun r_11 σ_11 τ_11 => some (r_11, σ_11, τ_11)) else if x1 = 7 then (bd (B_X12_thoseHow_0 N 206 σ_1 τ 2) fun r_13 σ_13 τ_13 => some (r_13, σ_13, τ_13)) else if x1 = 8 then (some (σ_1 199 36, σ_1, τ)) else if x1 = 9 then (some (σ_1 199 52, σ_1, τ)) else if x1 = 10 then (some (σ_1 199 1, σ_1, τ)) else if x1 = 11 then (some (σ_1 199 13, σ_1, τ)) else (some ((-100), σ_1, τ))
set_option maxHeartbeats 4000000 in
set_option maxRecDepth 100000 in
theorem b_X12_count_0 (l : Launch) (S : CallFix P9 m9 C9 cX12_count 2 s av.toArray gx_G RX12) (hr : meth.sig.returnType = (some .int)) (hlk : meth.locks = false) (hK : gx_K E s) (N : Nat) (σ : gI) (τ : gJ) (x1 : Int32) {r : Int32} {σ1 : gI} {τ1 : gJ} (h : B_X12_count_0 N σ τ x1 = some (r, σ1, τ1)) {H : Heap} {locs : List Loc} {ls : Array Slot} (hw : gx_W gx_tb gx_tb.length E s σ τ H locs) (hl : lv_has ls 2 [(0, .ref (E.2.2 + 199)), (1, .int x1)]) : W P9 l e9 (gx_rm 1) s m9 av.toArray below meth C9 H locs 0 0 (gq_Qi below av s E r σ1 τ1) (F0 m9 0 ls []) := by
  have hx := S.1
  have hb := S.2.1
  unfold B_X12_count_0 at h
  refine lv_aload_n hx hb dX12_count_0 rfl (lv_at hl 0 rfl) ?_
  refine lv_iconst (v := 0) hx hb dX12_count_1 (by decide) ?_
  refine gx_put S hK gx_ok hw t_199 cl_13 0 (by decide) rfl mw_1414 rfl rfl (ty := .int) (v := 0) (by decide +kernel) rfl rfl dX12_count_2 (fun H locs hw => ?_)
  obtain ⟨σ_1, e_1, h⟩ := nm_some h
  rw [← e_1] at hw
  refine lv_iload_n hx hb dX12_count_5 rfl (lv_at hl 1 rfl) ?_
  by_cases c_2 : x1 = 0
  · rw [if_pos c_2] at h
    refine gx_top (v := 0) c_2 ?_
    refine lv_tableIn (tgt := 68) hx hb dX12_count_6 (by decide) (by decide) rfl (by decide) ?_
    refine lv_aload_n hx hb dX12_count_68 rfl (lv_at hl 0 rfl) ?_
    refine gx_get S hK hw t_199 cl_13 3 (by decide) rfl mw_1417 rfl dX12_count_69 ?_
    obtain ⟨rfl, rfl, rfl⟩ := sm_inj h
    exact gx_ri (post := gq_p (σ_1 199 3) σ_1 τ) (v := σ_1 199 3) S hr hlk hw rfl dX12_count_72 ⟨rfl, rfl, rfl⟩
  rw [if_neg c_2] at h
  by_cases c_3 : x1 = 1
  · rw [if_pos c_3] at h
    refine gx_top (v := 1) c_3 ?_
    refine lv_tableIn (tgt := 73) hx hb dX12_count_6 (by decide) (by decide) rfl (by decide) ?_
    refine lv_aload_n hx hb dX12_count_73 rfl (lv_at hl 0 rfl) ?_
    refine gx_getr (j := 206) S hK hw t_199 cl_13 10 (by decide) rfl mw_1424 rfl dX12_count_74 ?_
    refine lv_bipush (v := 44) hx hb dX12_count_77 (by decide) ?_
    refine gx_iald S hK hw t_206 44 rfl (gx_in rfl (by decide) (by decide)) dX12_count_79 ?_
    obtain ⟨rfl, rfl, rfl⟩ := sm_inj h
    exact gx_ri (post := gq_p (σ_1 206 44) σ_1 τ) (v := σ_1 206 44) S hr hlk hw rfl dX12_count_80 ⟨rfl, rfl, rfl⟩
  rw [if_neg c_3] at h
  by_cases c_4 : x1 = 2
  · rw [if_pos c_4] at h
    refine gx_top (v := 2) c_4 ?_
    refine lv_tableIn (tgt := 81) hx hb dX12_count_6 (by decide) (by decide) rfl (by decide) ?_
    refine lv_aload_n hx hb dX12_count_81 rfl (lv_at hl 0 rfl) ?_
    refine gx_getr (j := 206) S hK hw t_199 cl_13 10 (by decide) rfl mw_1424 rfl dX12_count_82 ?_
    refine lv_bipush (v := 43) hx hb dX12_count_85 (by decide) ?_
    refine gx_iald S hK hw t_206 43 rfl (gx_in rfl (by decide) (by decide)) dX12_count_87 ?_
    obtain ⟨rfl, rfl, rfl⟩ := sm_inj h
    exact gx_ri (post := gq_p (σ_1 206 43) σ_1 τ) (v := σ_1 206 43) S hr hlk hw rfl dX12_count_88 ⟨rfl, rfl, rfl⟩
  rw [if_neg c_4] at h
  by_cases c_5 : x1 = 3
  · rw [if_pos c_5] at h
    refine gx_top (v := 3) c_5 ?_
    refine lv_tableIn (tgt := 89) hx hb dX12_count_6 (by decide) (by decide) rfl (by decide) ?_
    refine lv_aload_n hx hb dX12_count_89 rfl (lv_at hl 0 rfl) ?_
    obtain ⟨r_6, σ_6, τ_6, q_6, h⟩ := bd_some h
    refine gx_cVi (As := []) (rest := []) S hK gx_ok hw (c_X12_forks l (E := E) N σ_1 τ q_6) cw_X12_416 t_199 cl_13 ⟨Nat.le_of_ble_eq_true rfl, Nat.le_of_ble_eq_true rfl⟩ rfl hl.1 rfl (Nat.le_of_ble_eq_true rfl) ⟨Nat.le_of_ble_eq_true rfl, Nat.le_of_ble_eq_true rfl⟩ dX12_count_90 (fun r9 σ9 τ9 H locs hp hw => ?_)
    obtain ⟨rfl, rfl, rfl⟩ := hp
    obtain ⟨rfl, rfl, rfl⟩ := sm_inj h
    exact gx_ri (post := gq_p r_6 σ_6 τ_6) (v := r_6) S hr hlk hw rfl dX12_count_93 ⟨rfl, rfl, rfl⟩
  rw [if_neg c_5] at h
  by_cases c_7 : x1 = 4
  · rw [if_pos c_7] at h
    refine gx_top (v := 4) c_7 ?_
    refine lv_tableIn (tgt := 94) hx hb dX12_count_6 (by decide) (by decide) rfl (by decide) ?_
    refine lv_aload_n hx hb dX12_count_94 rfl (lv_at hl 0 rfl) ?_
    refine gx_getr (j := 206) S hK hw t_199 cl_13 10 (by decide) rfl mw_1424 rfl dX12_count_95 ?_
    refine lv_bipush (v := 42) hx hb dX12_count_98 (by decide) ?_
    refine gx_iald S hK hw t_206 42 rfl (gx_in rfl (by decide) (by decide)) dX12_count_100 ?_
    obtain ⟨rfl, rfl, rfl⟩ := sm_inj h
    exact gx_ri (post := gq_p (σ_1 206 42) σ_1 τ) (v := σ_1 206 42) S hr hlk hw rfl dX12_count_101 ⟨rfl, rfl, rfl⟩
  rw [if_neg c_7] at h
  by_cases c_8 : x1 = 5
  · rw [if_pos c_8] at h
    refine gx_top (v := 5) c_8 ?_
    refine lv_tableIn (tgt := 102) hx hb dX12_count_6 (by decide) (by decide) rfl (by decide) ?_
    refine lv_aload_n hx hb dX12_count_102 rfl (lv_at hl 0 rfl) ?_
    refine gx_getr (j := 206) S hK hw t_199 cl_13 10 (by decide) rfl mw_1424 rfl dX12_count_103 ?_
    refine lv_iconst (v := 0) hx hb dX12_count_106 (by decide) ?_
    obtain ⟨r_9, σ_9, τ_9, q_9, h⟩ := bd_some h
    refine gx_cSi (As := [.ref (E.2.2 + 206), .int 0]) (rest := []) S hK gx_ok hw (c_X12_thoseHow l (E := E) N 206 t_206 σ_1 τ 0 q_9) cw_X12_346 ⟨Nat.le_of_ble_eq_true rfl, Nat.le_of_ble_eq_true rfl⟩ rfl hl.1 rfl (Nat.le_of_ble_eq_true rfl) ⟨Nat.le_of_ble_eq_true rfl, Nat.le_of_ble_eq_true rfl⟩ dX12_count_107 (fun r9 σ9 τ9 H locs hp hw => ?_)
    obtain ⟨rfl, rfl, rfl⟩ := hp
    obtain ⟨rfl, rfl, rfl⟩ := sm_inj h
    exact gx_ri (post := gq_p r_9 σ_9 τ_9) (v := r_9) S hr hlk hw rfl dX12_count_110 ⟨rfl, rfl, rfl⟩
  rw [if_neg c_8] at h
  by_cases c_10 : x1 = 6
  · rw [if_pos c_10] at h
    refine gx_top (v := 6) c_10 ?_
    refine lv_tableIn (tgt := 111) hx hb dX12_count_6 (by decide) (by decide) rfl (by decide) ?_
    refine lv_aload_n hx hb dX12_count_111 rfl (lv_at hl 0 rfl) ?_
    refine gx_getr (j := 206) S hK hw t_199 cl_13 10 (by decide) rfl mw_1424 rfl dX12_count_112 ?_
    refine lv_iconst (v := 1) hx hb dX12_count_115 (by decide) ?_
    obtain ⟨r_11, σ_11, τ_11, q_11, h⟩ := bd_some h
    refine gx_cSi (As := [.ref (E.2.2 + 206), .int 1]) (rest := []) S hK gx_ok hw (c_X12_thoseHow l (E := E) N 206 t_206 σ_1 τ 1 q_11) cw_X12_346 ⟨Nat.le_of_ble_eq_true rfl, Nat.le_of_ble_eq_true rfl⟩ rfl hl.1 rfl (Nat.le_of_ble_eq_true rfl) ⟨Nat.le_of_ble_eq_true rfl, Nat.le_of_ble_eq_true rfl⟩ dX12_count_116 (fun r9 σ9 τ9 H locs hp hw => ?_)
    obtain ⟨rfl, rfl, rfl⟩ := hp
    obtain ⟨rfl, rfl, rfl⟩ := sm_inj h
    exact gx_ri (post := gq_p r_11 σ_11 τ_11) (v := r_11) S hr hlk hw rfl dX12_count_119 ⟨rfl, rfl, rfl⟩
  rw [if_neg c_10] at h
  by_cases c_12 : x1 = 7
  · rw [if_pos c_12] at h
    refine gx_top (v := 7) c_12 ?_
    refine lv_tableIn (tgt := 120) hx hb dX12_count_6 (by decide) (by decide) rfl (by decide) ?_
    refine lv_aload_n hx hb dX12_count_120 rfl (lv_at hl 0 rfl) ?_
    refine gx_getr (j := 206) S hK hw t_199 cl_13 10 (by decide) rfl mw_1424 rfl dX12_count_121 ?_
    refine lv_iconst (v := 2) hx hb dX12_count_124 (by decide) ?_
    obtain ⟨r_13, σ_13, τ_13, q_13, h⟩ := bd_some h
    refine gx_cSi (As := [.ref (E.2.2 + 206), .int 2]) (rest := []) S hK gx_ok hw (c_X12_thoseHow l (E := E) N 206 t_206 σ_1 τ 2 q_13) cw_X12_346 ⟨Nat.le_of_ble_eq_true rfl, Nat.le_of_ble_eq_true rfl⟩ rfl hl.1 rfl (Nat.le_of_ble_eq_true rfl) ⟨Nat.le_of_ble_eq_true rfl, Nat.le_of_ble_eq_true rfl⟩ dX12_count_125 (fun r9 σ9 τ9 H locs hp hw => ?_)
    obtain ⟨rfl, rfl, rfl⟩ := hp
    obtain ⟨rfl, rfl, rfl⟩ := sm_inj h
    exact gx_ri (post := gq_p r_13 σ_13 τ_13) (v := r_13) S hr hlk hw rfl dX12_count_128 ⟨rfl, rfl, rfl⟩
  rw [if_neg c_12] at h
  by_cases c_14 : x1 = 8
  · rw [if_pos c_14] at h
    refine gx_top (v := 8) c_14 ?_
    refine lv_tableIn (tgt := 129) hx hb dX12_count_6 (by decide) (by decide) rfl (by decide) ?_
    refine lv_aload_n hx hb dX12_count_129 rfl (lv_at hl 0 rfl) ?_
    refine gx_get S hK hw t_199 cl_13 36 (by decide) rfl mw_1450 rfl dX12_count_130 ?_
    obtain ⟨rfl, rfl, rfl⟩ := sm_inj h
    exact gx_ri (post := gq_p (σ_1 199 36) σ_1 τ) (v := σ_1 199 36) S hr hlk hw rfl dX12_count_133 ⟨rfl, rfl, rfl⟩
  rw [if_neg c_14] at h
  by_cases c_15 : x1 = 9
  · rw [if_pos c_15] at h
    refine gx_top (v := 9) c_15 ?_
    refine lv_tableIn (tgt := 134) hx hb dX12_count_6 (by decide) (by decide) rfl (by decide) ?_
    refine lv_aload_n hx hb dX12_count_134 rfl (lv_at hl 0 rfl) ?_
    refine gx_get S hK hw t_199 cl_13 52 (by decide) rfl mw_1466 rfl dX12_count_135 ?_
    obtain ⟨rfl, rfl, rfl⟩ := sm_inj h
    exact gx_ri (post := gq_p (σ_1 199 52) σ_1 τ) (v := σ_1 199 52) S hr hlk hw rfl dX12_count_138 ⟨rfl, rfl, rfl⟩
  rw [if_neg c_15] at h
  by_cases c_16 : x1 = 10
  · rw [if_pos c_16] at h
    refine gx_top (v := 10) c_16 ?_
    refine lv_tableIn (tgt := 139) hx hb dX12_count_6 (by decide) (by decide) rfl (by decide) ?_
    refine lv_aload_n hx hb dX12_count_139 rfl (lv_at hl 0 rfl) ?_
    refine gx_get S hK hw t_199 cl_13 1 (by decide) rfl mw_1415 rfl dX12_count_140 ?_
    obtain ⟨rfl, rfl, rfl⟩ := sm_inj h
    exact gx_ri (post := gq_p (σ_1 199 1) σ_1 τ) (v := σ_1 199 1) S hr hlk hw rfl dX12_count_143 ⟨rfl, rfl, rfl⟩
  rw [if_neg c_16] at h
  by_cases c_17 : x1 = 11
  · rw [if_pos c_17] at h
    refine gx_top (v := 11) c_17 ?_
    refine lv_tableIn (tgt := 144) hx hb dX12_count_6 (by decide) (by decide) rfl (by decide) ?_
    refine lv_aload_n hx hb dX12_count_144 rfl (lv_at hl 0 rfl) ?_
    refine gx_get S hK hw t_199 cl_13 13 (by decide) rfl mw_1427 rfl dX12_count_145 ?_
    obtain ⟨rfl, rfl, rfl⟩ := sm_inj h
    exact gx_ri (post := gq_p (σ_1 199 13) σ_1 τ) (v := σ_1 199 13) S hr hlk hw rfl dX12_count_148 ⟨rfl, rfl, rfl⟩
  rw [if_neg c_17] at h
  refine lv_tableOut (tgt := 149) hx hb dX12_count_6 (by have t_2 := lv_neT (a := 0) c_2 rfl; have t_3 := lv_neT (a := 1) c_3 rfl; have t_4 := lv_neT (a := 2) c_4 rfl; have t_5 := lv_neT (a := 3) c_5 rfl; have t_7 := lv_neT (a := 4) c_7 rfl; have t_8 := lv_neT (a := 5) c_8 rfl; have t_10 := lv_neT (a := 6) c_10 rfl; have t_12 := lv_neT (a := 7) c_12 rfl; have t_14 := lv_neT (a := 8) c_14 rfl; have t_15 := lv_neT (a := 9) c_15 rfl; have t_16 := lv_neT (a := 10) c_16 rfl; have t_17 := lv_neT (a := 11) c_17 rfl; omega) (by decide) ?_
  refine lv_bipush (v := (-100)) hx hb dX12_count_149 (by decide) ?_
  obtain ⟨rfl, rfl, rfl⟩ := sm_inj h
  exact gx_ri (post := gq_p (-100) σ_1 τ) (v := (-100)) S hr hlk hw rfl dX12_count_151 ⟨rfl, rfl, rfl⟩
set_option maxHeartbeats 4000000 in
set_option maxRecDepth 100000 in
theorem c_X12_count (l : Launch) {E : gE} (N : Nat) (σ : gI) (τ : gJ) (x1 : Int32) {r : Int32} {σ1 : gI} {τ1 : gJ} (h : B_X12_count_0 N σ τ x1 = some (r, σ1, τ1)) : gx_Mi l yX12_count cX12_count 2 (some .int) 1 gx_tb E σ τ [.ref (E.2.2 + 199), .int x1] (gq_p r σ1 τ1) := by
  refine gx_bi (by decide +kernel) (Nat.le_of_ble_eq_true rfl) ?_
  intro P9 e9 s m9 below meth C9 S hr hlk hK hw ls hl
  have hl : lv_has ls 2 [(0, .ref (E.2.2 + 199)), (1, .int x1)] := hl
  exact b_X12_count_0 l S hr hlk hK N σ τ x1 h hw hl
/-! X12_takesOf -/
def B_X12_takesOf_0 (N : Nat) (bs : List Int32) (σ : gI) (τ : gJ) : Option (Int32 × gI × gJ) := bd (B_X12_among_0 N bs σ τ) fun r_1 σ_1 τ_1 => if r_1 < 0 then (bd (B_X12_flag_0 N σ_1 τ_1 0) fun r_3 σ_3 τ_3 => nm (up2 σ_3 199 14 ((σ_1 199 14) + r_3)) fun σ_4 => some (r_1, σ_4, τ_3)) else (bd (B_X12_flag_0 N σ_1 τ_1 1) fun r_5 σ_5 τ_5 => nm (up2 σ_5 199 14 ((σ_1 199 14) + r_5)) fun σ_6 => some (r_1, σ_6, τ_5))
set_option maxHeartbeats 4000000 in
set_option maxRecDepth 100000 in
theorem b_X12_takesOf_0 (l : Launch) (S : CallFix P9 m9 C9 cX12_takesOf 3 s av.toArray gx_G RX12) (hr : meth.sig.returnType = (some .int)) (hlk : meth.locks = false) (hK : gx_K E s) (N : Nat) (bs : List Int32) (hZ : zs_A bs a9 v9 E s s.heap s.heap.size) (σ : gI) (τ : gJ) {r : Int32} {σ1 : gI} {τ1 : gJ} (h : B_X12_takesOf_0 N bs σ τ = some (r, σ1, τ1)) {H : Heap} {locs : List Loc} {ls : Array Slot} (hw : gx_W gx_tb gx_tb.length E s σ τ H locs) (hl : lv_has ls 3 [(0, .ref (E.2.2 + 199)), (1, .ref a9)]) : W P9 l e9 (gx_rm 5) s m9 av.toArray below meth C9 H locs 0 0 (gq_Qi below av s E r σ1 τ1) (F0 m9 0 ls []) := by
  have hx := S.1
  have hb := S.2.1
  unfold B_X12_takesOf_0 at h
  refine lv_aload_n hx hb dX12_takesOf_0 rfl (lv_at hl 0 rfl) ?_
  refine lv_aload_n hx hb dX12_takesOf_1 rfl (lv_at hl 1 rfl) ?_
  obtain ⟨r_1, σ_1, τ_1, q_1, h⟩ := bd_some h
  refine zs_V (As := [.ref a9]) (rest := []) S hK hw (zs_h hZ hw) (c_X12_among l (E := E) N bs σ τ q_1) rfl cw_X12_173 (va_recv hK.1 hw.1 cl_13.1 (gx_at t_199)) ⟨Nat.le_of_ble_eq_true rfl, Nat.le_of_ble_eq_true rfl⟩ rfl hl.1 rfl (Nat.le_of_ble_eq_true rfl) ⟨Nat.le_of_ble_eq_true rfl, Nat.le_of_ble_eq_true rfl⟩ dX12_takesOf_2 (fun r9 σ9 τ9 H locs hp hw => ?_)
  obtain ⟨rfl, rfl, rfl⟩ := hp
  refine lv_istore_n (lv' := [(2, .int r_1), (0, .ref (E.2.2 + 199)), (1, .ref a9)]) hx hb dX12_takesOf_5 rfl hl (by decide) rfl (fun ls hl => ?_)
  refine lv_aload_n hx hb dX12_takesOf_6 rfl (lv_at hl 1 rfl) ?_
  refine lv_dup hx hb dX12_takesOf_7 rfl ?_
  refine gx_get S hK hw t_199 cl_13 14 (by decide) rfl mw_1428 rfl dX12_takesOf_8 ?_
  refine lv_iload_n hx hb dX12_takesOf_11 rfl (lv_at hl 0 rfl) ?_
  refine lv_if_lt (tgt := 19) hx hb dX12_takesOf_12 (by decide) (fun c_2 => ?_) (fun c_2 => ?_)
  · rw [if_pos c_2] at h
    refine lv_iconst (v := 0) hx hb dX12_takesOf_19 (by decide) ?_
    obtain ⟨r_3, σ_3, τ_3, q_3, h⟩ := bd_some h
    refine gx_cSi (As := [.int 0]) (rest := [.int (σ_1 199 14), .ref (E.2.2 + 199)]) S hK gx_ok hw (c_X12_flag l (E := E) N σ_1 τ_1 0 q_3) cw_X12_155 ⟨Nat.le_of_ble_eq_true rfl, Nat.le_of_ble_eq_true rfl⟩ rfl hl.1 rfl (Nat.le_of_ble_eq_true rfl) ⟨Nat.le_of_ble_eq_true rfl, Nat.le_of_ble_eq_true rfl⟩ dX12_takesOf_20 (fun r9 σ9 τ9 H locs hp hw => ?_)
    obtain ⟨rfl, rfl, rfl⟩ := hp
    refine lv_iadd hx hb dX12_takesOf_23 ?_
    refine gx_put S hK gx_ok hw t_199 cl_13 14 (by decide) rfl mw_1428 rfl rfl (ty := .int) (v := (σ_1 199 14) + r_3) (by decide +kernel) rfl rfl dX12_takesOf_24 (fun H locs hw => ?_)
    obtain ⟨σ_4, e_4, h⟩ := nm_some h
    rw [← e_4] at hw
    refine lv_iload_n hx hb dX12_takesOf_27 rfl (lv_at hl 0 rfl) ?_
    obtain ⟨rfl, rfl, rfl⟩ := sm_inj h
    exact gx_ri (post := gq_p r_1 σ_4 τ_3) (v := r_1) S hr hlk hw rfl dX12_takesOf_28 ⟨rfl, rfl, rfl⟩
  · rw [if_neg c_2] at h
    refine lv_iconst (v := 1) hx hb dX12_takesOf_15 (by decide) ?_
    refine lv_goto (tgt := 20) hx hb dX12_takesOf_16 (by decide) ?_
    obtain ⟨r_5, σ_5, τ_5, q_5, h⟩ := bd_some h
    refine gx_cSi (As := [.int 1]) (rest := [.int (σ_1 199 14), .ref (E.2.2 + 199)]) S hK gx_ok hw (c_X12_flag l (E := E) N σ_1 τ_1 1 q_5) cw_X12_155 ⟨Nat.le_of_ble_eq_true rfl, Nat.le_of_ble_eq_true rfl⟩ rfl hl.1 rfl (Nat.le_of_ble_eq_true rfl) ⟨Nat.le_of_ble_eq_true rfl, Nat.le_of_ble_eq_true rfl⟩ dX12_takesOf_20 (fun r9 σ9 τ9 H locs hp hw => ?_)
    obtain ⟨rfl, rfl, rfl⟩ := hp
    refine lv_iadd hx hb dX12_takesOf_23 ?_
    refine gx_put S hK gx_ok hw t_199 cl_13 14 (by decide) rfl mw_1428 rfl rfl (ty := .int) (v := (σ_1 199 14) + r_5) (by decide +kernel) rfl rfl dX12_takesOf_24 (fun H locs hw => ?_)
    obtain ⟨σ_6, e_6, h⟩ := nm_some h
    rw [← e_6] at hw
    refine lv_iload_n hx hb dX12_takesOf_27 rfl (lv_at hl 0 rfl) ?_
    obtain ⟨rfl, rfl, rfl⟩ := sm_inj h
    exact gx_ri (post := gq_p r_1 σ_6 τ_5) (v := r_1) S hr hlk hw rfl dX12_takesOf_28 ⟨rfl, rfl, rfl⟩
set_option maxHeartbeats 4000000 in
set_option maxRecDepth 100000 in
theorem c_X12_takesOf (l : Launch) {E : gE} (N : Nat) (bs : List Int32) (σ : gI) (τ : gJ) {r : Int32} {σ1 : gI} {τ1 : gJ} (h : B_X12_takesOf_0 N bs σ τ = some (r, σ1, τ1)) : gx_Zi l yX12_takesOf cX12_takesOf 3 (some .int) 5 E bs σ τ (fun a9 v9 => [.ref (E.2.2 + 199), .ref a9]) (gq_p r σ1 τ1) := by
  refine zs_bi (by decide +kernel) (fun a9 v9 => Nat.le_of_ble_eq_true rfl) ?_
  intro a9 v9 P9 e9 s m9 below meth C9 S hr hlk hK hZ hw ls hl
  have hl : lv_has ls 3 [(0, .ref (E.2.2 + 199)), (1, .ref a9)] := hl
  exact b_X12_takesOf_0 l S hr hlk hK N bs hZ σ τ h hw hl
/-! X12_isDigit -/
def B_X12_isDigit_0 (N : Nat) (σ : gI) (τ : gJ) : Option (Int32 × gI × gJ) := if σ 199 15 ≤ σ 199 14 then (some (0, σ, τ)) else (ck (σ 199 14) 80 fun j_2 => bd (B_X12_in_0 N σ τ ((σ 208 j_2).toInt64) 48 57) fun r_3 σ_3 τ_3 => if r_3 = 0 then (some (0, σ_3, τ_3)) else (some (1, σ_3, τ_3)))
set_option maxHeartbeats 4000000 in
set_option maxRecDepth 100000 in
theorem b_X12_isDigit_0 (l : Launch) (S : CallFix P9 m9 C9 cX12_isDigit 1 s av.toArray gx_G RX12) (hr : meth.sig.returnType = (some .boolean)) (hlk : meth.locks = false) (hK : gx_K E s) (N : Nat) (σ : gI) (τ : gJ) {r : Int32} {σ1 : gI} {τ1 : gJ} (h : B_X12_isDigit_0 N σ τ = some (r, σ1, τ1)) {H : Heap} {locs : List Loc} {ls : Array Slot} (hw : gx_W gx_tb gx_tb.length E s σ τ H locs) (hl : lv_has ls 1 [(0, .ref (E.2.2 + 199))]) : W P9 l e9 (gx_rm 1) s m9 av.toArray below meth C9 H locs 0 0 (gq_Qi below av s E r σ1 τ1) (F0 m9 0 ls []) := by
  have hx := S.1
  have hb := S.2.1
  unfold B_X12_isDigit_0 at h
  refine lv_aload_n hx hb dX12_isDigit_0 rfl (lv_at hl 0 rfl) ?_
  refine gx_get S hK hw t_199 cl_13 14 (by decide) rfl mw_1428 rfl dX12_isDigit_1 ?_
  refine lv_aload_n hx hb dX12_isDigit_4 rfl (lv_at hl 0 rfl) ?_
  refine gx_get S hK hw t_199 cl_13 15 (by decide) rfl mw_1429 rfl dX12_isDigit_5 ?_
  refine lv_icmp_ge (tgt := 37) hx hb dX12_isDigit_8 (by decide) (fun c_1 => ?_) (fun c_1 => ?_)
  · rw [if_pos c_1] at h
    refine lv_iconst (v := 0) hx hb dX12_isDigit_37 (by decide) ?_
    obtain ⟨rfl, rfl, rfl⟩ := sm_inj h
    exact gx_ri (post := gq_p 0 σ τ) (v := 0) S hr hlk hw rfl dX12_isDigit_38 ⟨rfl, rfl, rfl⟩
  · rw [if_neg c_1] at h
    refine lv_aload_n hx hb dX12_isDigit_11 rfl (lv_at hl 0 rfl) ?_
    refine gx_getr (j := 208) S hK hw t_199 cl_13 12 (by decide) rfl mw_1426 rfl dX12_isDigit_12 ?_
    refine lv_aload_n hx hb dX12_isDigit_15 rfl (lv_at hl 0 rfl) ?_
    refine gx_get S hK hw t_199 cl_13 14 (by decide) rfl mw_1428 rfl dX12_isDigit_16 ?_
    obtain ⟨j_2, hj_2, hi_2, h⟩ := ck_some h
    refine gx_iald S hK hw t_208 j_2 hj_2 hi_2 dX12_isDigit_19 ?_
    refine lv_i2l (v := (σ 208 j_2).toInt64) hx hb dX12_isDigit_20 rfl ?_
    refine lv_ldc2 (v := 48) hx hb S.2.2.2.1 (S.2.2.2.2 _ mw_1771) dX12_isDigit_21 ?_
    refine lv_ldc2 (v := 57) hx hb S.2.2.2.1 (S.2.2.2.2 _ mw_1772) dX12_isDigit_24 ?_
    obtain ⟨r_3, σ_3, τ_3, q_3, h⟩ := bd_some h
    refine gx_cSi (As := [.long ((σ 208 j_2).toInt64), .long 48, .long 57]) (rest := []) S hK gx_ok hw (c_X12_in l (E := E) N σ τ ((σ 208 j_2).toInt64) 48 57 q_3) cw_X12_129 ⟨Nat.le_of_ble_eq_true rfl, Nat.le_of_ble_eq_true rfl⟩ rfl hl.1 rfl (Nat.le_of_ble_eq_true rfl) ⟨Nat.le_of_ble_eq_true rfl, Nat.le_of_ble_eq_true rfl⟩ dX12_isDigit_27 (fun r9 σ9 τ9 H locs hp hw => ?_)
    obtain ⟨rfl, rfl, rfl⟩ := hp
    refine lv_if_eq (tgt := 37) hx hb dX12_isDigit_30 (by decide) (fun c_4 => ?_) (fun c_4 => ?_)
    · rw [if_pos c_4] at h
      refine lv_iconst (v := 0) hx hb dX12_isDigit_37 (by decide) ?_
      obtain ⟨rfl, rfl, rfl⟩ := sm_inj h
      exact gx_ri (post := gq_p 0 σ_3 τ_3) (v := 0) S hr hlk hw rfl dX12_isDigit_38 ⟨rfl, rfl, rfl⟩
    · rw [if_neg c_4] at h
      refine lv_iconst (v := 1) hx hb dX12_isDigit_33 (by decide) ?_
      refine lv_goto (tgt := 38) hx hb dX12_isDigit_34 (by decide) ?_
      obtain ⟨rfl, rfl, rfl⟩ := sm_inj h
      exact gx_ri (post := gq_p 1 σ_3 τ_3) (v := 1) S hr hlk hw rfl dX12_isDigit_38 ⟨rfl, rfl, rfl⟩
set_option maxHeartbeats 4000000 in
set_option maxRecDepth 100000 in
theorem c_X12_isDigit (l : Launch) {E : gE} (N : Nat) (σ : gI) (τ : gJ) {r : Int32} {σ1 : gI} {τ1 : gJ} (h : B_X12_isDigit_0 N σ τ = some (r, σ1, τ1)) : gx_Mi l yX12_isDigit cX12_isDigit 1 (some .boolean) 1 gx_tb E σ τ [.ref (E.2.2 + 199)] (gq_p r σ1 τ1) := by
  refine gx_bi (by decide +kernel) (Nat.le_of_ble_eq_true rfl) ?_
  intro P9 e9 s m9 below meth C9 S hr hlk hK hw ls hl
  have hl : lv_has ls 1 [(0, .ref (E.2.2 + 199))] := hl
  exact b_X12_isDigit_0 l S hr hlk hK N σ τ h hw hl
/-! X12_numberOf -/
def C_X12_numberOf_13 (N : Nat) (rec_13 : gI → gJ → Int32 → Int32 → Int32 → Option (Int32 × gI × gJ)) (σ : gI) (τ : gJ) (x1 : Int32) (x2 : Int32) (x3 : Int32) : Option (Int32 × gI × gJ) := if x1 ≤ x3 then (some (x2, σ, τ)) else (bd (B_X12_isDigit_0 N σ τ) fun r_2 σ_2 τ_2 => if r_2 = 0 then (some (x2, σ_2, τ_2)) else (ck (σ_2 199 14) 80 fun j_4 => nm (((10 * x2) + (σ_2 208 j_4)) - 48) fun v_5 => nm (up2 σ_2 199 14 ((σ_2 199 14) + 1)) fun σ_6 => nm (x3 + 1) fun v_7 => rec_13 σ_6 τ_2 x1 v_5 v_7))
def H_X12_numberOf_13 (N : Nat) : Nat → gI → gJ → Int32 → Int32 → Int32 → Option (Int32 × gI × gJ) := itn (fun rec_13 => C_X12_numberOf_13 N rec_13) (fun _ _ _ _ _ => none)
def B_X12_numberOf_0 (N : Nat) (σ : gI) (τ : gJ) (x1 : Int32) : Option (Int32 × gI × gJ) := bd (B_X12_isDigit_0 N σ τ) fun r_1 σ_1 τ_1 => if r_1 = 0 then (some ((-1), σ_1, τ_1)) else (H_X12_numberOf_13 N N σ_1 τ_1 x1 0 0)
set_option maxHeartbeats 4000000 in
set_option maxRecDepth 100000 in
theorem k_X12_numberOf_13 (l : Launch) (S : CallFix P9 m9 C9 cX12_numberOf 4 s av.toArray gx_G RX12) (hr : meth.sig.returnType = (some .int)) (hlk : meth.locks = false) (hK : gx_K E s) (N : Nat) (rec_13 : gI → gJ → Int32 → Int32 → Int32 → Option (Int32 × gI × gJ)) (hrec_13 : ∀ (σ : gI) (τ : gJ) (x1 : Int32) (x2 : Int32) (x3 : Int32) (r : Int32) (σ1 : gI) (τ1 : gJ) (H : Heap) (locs : List Loc) (ls : Array Slot), rec_13 σ τ x1 x2 x3 = some (r, σ1, τ1) → gx_W gx_tb gx_tb.length E s σ τ H locs → lv_has ls 4 [(0, .ref (E.2.2 + 199)), (1, .int x1), (2, .int x2), (3, .int x3)] → W P9 l e9 (gx_rm 2) s m9 av.toArray below meth C9 H locs 0 0 (gq_Qi below av s E r σ1 τ1) (F0 m9 13 ls [])) (σ : gI) (τ : gJ) (x1 : Int32) (x2 : Int32) (x3 : Int32) {r : Int32} {σ1 : gI} {τ1 : gJ} (h : C_X12_numberOf_13 N rec_13 σ τ x1 x2 x3 = some (r, σ1, τ1)) {H : Heap} {locs : List Loc} {ls : Array Slot} (hw : gx_W gx_tb gx_tb.length E s σ τ H locs) (hl : lv_has ls 4 [(0, .ref (E.2.2 + 199)), (1, .int x1), (2, .int x2), (3, .int x3)]) : W P9 l e9 (gx_rm 2) s m9 av.toArray below meth C9 H locs 0 0 (gq_Qi below av s E r σ1 τ1) (F0 m9 13 ls []) := by
  have hx := S.1
  have hb := S.2.1
  unfold C_X12_numberOf_13 at h
  refine lv_iload_n hx hb dX12_numberOf_13 rfl (lv_at hl 3 rfl) ?_
  refine lv_iload_n hx hb dX12_numberOf_14 rfl (lv_at hl 1 rfl) ?_
  refine lv_icmp_ge (tgt := 59) hx hb dX12_numberOf_15 (by decide) (fun c_1 => ?_) (fun c_1 => ?_)
  · rw [if_pos c_1] at h
    refine lv_iload_n hx hb dX12_numberOf_59 rfl (lv_at hl 2 rfl) ?_
    obtain ⟨rfl, rfl, rfl⟩ := sm_inj h
    exact gx_ri (post := gq_p x2 σ τ) (v := x2) S hr hlk hw rfl dX12_numberOf_60 ⟨rfl, rfl, rfl⟩
  · rw [if_neg c_1] at h
    refine lv_aload_n hx hb dX12_numberOf_18 rfl (lv_at hl 0 rfl) ?_
    obtain ⟨r_2, σ_2, τ_2, q_2, h⟩ := bd_some h
    refine gx_cVi (As := []) (rest := []) S hK gx_ok hw (c_X12_isDigit l (E := E) N σ τ q_2) cw_X12_177 t_199 cl_13 ⟨Nat.le_of_ble_eq_true rfl, Nat.le_of_ble_eq_true rfl⟩ rfl hl.1 rfl (Nat.le_of_ble_eq_true rfl) ⟨Nat.le_of_ble_eq_true rfl, Nat.le_of_ble_eq_true rfl⟩ dX12_numberOf_19 (fun r9 σ9 τ9 H locs hp hw => ?_)
    obtain ⟨rfl, rfl, rfl⟩ := hp
    refine lv_if_eq (tgt := 59) hx hb dX12_numberOf_22 (by decide) (fun c_3 => ?_) (fun c_3 => ?_)
    · rw [if_pos c_3] at h
      refine lv_iload_n hx hb dX12_numberOf_59 rfl (lv_at hl 2 rfl) ?_
      obtain ⟨rfl, rfl, rfl⟩ := sm_inj h
      exact gx_ri (post := gq_p x2 σ_2 τ_2) (v := x2) S hr hlk hw rfl dX12_numberOf_60 ⟨rfl, rfl, rfl⟩
    · rw [if_neg c_3] at h
      refine lv_bipush (v := 10) hx hb dX12_numberOf_25 (by decide) ?_
      refine lv_iload_n hx hb dX12_numberOf_27 rfl (lv_at hl 2 rfl) ?_
      refine lv_imul hx hb dX12_numberOf_28 ?_
      refine lv_aload_n hx hb dX12_numberOf_29 rfl (lv_at hl 0 rfl) ?_
      refine gx_getr (j := 208) S hK hw t_199 cl_13 12 (by decide) rfl mw_1426 rfl dX12_numberOf_30 ?_
      refine lv_aload_n hx hb dX12_numberOf_33 rfl (lv_at hl 0 rfl) ?_
      refine gx_get S hK hw t_199 cl_13 14 (by decide) rfl mw_1428 rfl dX12_numberOf_34 ?_
      obtain ⟨j_4, hj_4, hi_4, h⟩ := ck_some h
      refine gx_iald S hK hw t_208 j_4 hj_4 hi_4 dX12_numberOf_37 ?_
      refine lv_iadd hx hb dX12_numberOf_38 ?_
      refine lv_bipush (v := 48) hx hb dX12_numberOf_39 (by decide) ?_
      refine lv_isub hx hb dX12_numberOf_41 ?_
      refine lv_istore_n (lv' := [(2, .int (((10 * x2) + (σ_2 208 j_4)) - 48)), (0, .ref (E.2.2 + 199)), (1, .int x1), (3, .int x3)]) hx hb dX12_numberOf_42 rfl hl (by decide) rfl (fun ls hl => ?_)
      obtain ⟨v_5, e_5, h⟩ := nm_some h
      have hl : lv_has ls 4 [(2, .int v_5), (0, .ref (E.2.2 + 199)), (1, .int x1), (3, .int x3)] := by rw [e_5]; exact hl
      refine lv_aload_n hx hb dX12_numberOf_43 rfl (lv_at hl 1 rfl) ?_
      refine lv_dup hx hb dX12_numberOf_44 rfl ?_
      refine gx_get S hK hw t_199 cl_13 14 (by decide) rfl mw_1428 rfl dX12_numberOf_45 ?_
      refine lv_iconst (v := 1) hx hb dX12_numberOf_48 (by decide) ?_
      refine lv_iadd hx hb dX12_numberOf_49 ?_
      refine gx_put S hK gx_ok hw t_199 cl_13 14 (by decide) rfl mw_1428 rfl rfl (ty := .int) (v := (σ_2 199 14) + 1) (by decide +kernel) rfl rfl dX12_numberOf_50 (fun H locs hw => ?_)
      obtain ⟨σ_6, e_6, h⟩ := nm_some h
      rw [← e_6] at hw
      refine lv_iinc (v := x3 + 1) (lv' := [(3, .int (x3 + 1)), (2, .int v_5), (0, .ref (E.2.2 + 199)), (1, .int x1)]) hx hb dX12_numberOf_53 hl (k := 3) rfl rfl (by decide) rfl (fun ls hl => ?_)
      obtain ⟨v_7, e_7, h⟩ := nm_some h
      have hl : lv_has ls 4 [(3, .int v_7), (2, .int v_5), (0, .ref (E.2.2 + 199)), (1, .int x1)] := by rw [e_7]; exact hl
      refine lv_goto (tgt := 13) hx hb dX12_numberOf_56 (by decide) ?_
      exact hrec_13 σ_6 τ_2 x1 v_5 v_7 _ _ _ _ _ _ h hw (lv_sub hl [2, 3, 1, 0] rfl)
set_option maxHeartbeats 4000000 in
set_option maxRecDepth 100000 in
theorem h_X12_numberOf_13 (l : Launch) (S : CallFix P9 m9 C9 cX12_numberOf 4 s av.toArray gx_G RX12) (hr : meth.sig.returnType = (some .int)) (hlk : meth.locks = false) (hK : gx_K E s) (N : Nat) : ∀ (n : Nat) (σ : gI) (τ : gJ) (x1 : Int32) (x2 : Int32) (x3 : Int32) (r : Int32) (σ1 : gI) (τ1 : gJ), H_X12_numberOf_13 N n σ τ x1 x2 x3 = some (r, σ1, τ1) → ∀ (H : Heap) (locs : List Loc) (ls : Array Slot), gx_W gx_tb gx_tb.length E s σ τ H locs → lv_has ls 4 [(0, .ref (E.2.2 + 199)), (1, .int x1), (2, .int x2), (3, .int x3)] → W P9 l e9 (gx_rm 2) s m9 av.toArray below meth C9 H locs 0 0 (gq_Qi below av s E r σ1 τ1) (F0 m9 13 ls []) := by
  intro n
  induction n with
  | zero => intro σ τ x1 x2 x3 r σ1 τ1 h; cases h
  | succ n ih =>
    intro σ τ x1 x2 x3 r σ1 τ1 h H locs ls hw hl
    exact k_X12_numberOf_13 l S hr hlk hK N (H_X12_numberOf_13 N n) (fun σ τ x1 x2 x3 r σ1 τ1 H locs ls h hw hl => ih σ τ x1 x2 x3 r σ1 τ1 h H locs ls hw hl) σ τ x1 x2 x3 h hw hl
set_option maxHeartbeats 4000000 in
set_option maxRecDepth 100000 in
theorem b_X12_numberOf_0 (l : Launch) (S : CallFix P9 m9 C9 cX12_numberOf 4 s av.toArray gx_G RX12) (hr : meth.sig.returnType = (some .int)) (hlk : meth.locks = false) (hK : gx_K E s) (N : Nat) (σ : gI) (τ : gJ) (x1 : Int32) {r : Int32} {σ1 : gI} {τ1 : gJ} (h : B_X12_numberOf_0 N σ τ x1 = some (r, σ1, τ1)) {H : Heap} {locs : List Loc} {ls : Array Slot} (hw : gx_W gx_tb gx_tb.length E s σ τ H locs) (hl : lv_has ls 4 [(0, .ref (E.2.2 + 199)), (1, .int x1)]) : W P9 l e9 (gx_rm 2) s m9 av.toArray below meth C9 H locs 0 0 (gq_Qi below av s E r σ1 τ1) (F0 m9 0 ls []) := by
  have hx := S.1
  have hb := S.2.1
  unfold B_X12_numberOf_0 at h
  refine lv_aload_n hx hb dX12_numberOf_0 rfl (lv_at hl 0 rfl) ?_
  obtain ⟨r_1, σ_1, τ_1, q_1, h⟩ := bd_some h
  refine gx_cVi (As := []) (rest := []) S hK gx_ok hw (c_X12_isDigit l (E := E) N σ τ q_1) cw_X12_177 t_199 cl_13 ⟨Nat.le_of_ble_eq_true rfl, Nat.le_of_ble_eq_true rfl⟩ rfl hl.1 rfl (Nat.le_of_ble_eq_true rfl) ⟨Nat.le_of_ble_eq_true rfl, Nat.le_of_ble_eq_true rfl⟩ dX12_numberOf_1 (fun r9 σ9 τ9 H locs hp hw => ?_)
  obtain ⟨rfl, rfl, rfl⟩ := hp
  refine lv_if_ne (tgt := 9) hx hb dX12_numberOf_4 (by decide) (fun c_2 => ?_) (fun c_2 => ?_)
  · rw [if_neg c_2] at h
    refine lv_iconst (v := 0) hx hb dX12_numberOf_9 (by decide) ?_
    refine lv_istore_n (lv' := [(2, .int 0), (0, .ref (E.2.2 + 199)), (1, .int x1)]) hx hb dX12_numberOf_10 rfl hl (by decide) rfl (fun ls hl => ?_)
    refine lv_iconst (v := 0) hx hb dX12_numberOf_11 (by decide) ?_
    refine lv_istore_n (lv' := [(3, .int 0), (2, .int 0), (0, .ref (E.2.2 + 199)), (1, .int x1)]) hx hb dX12_numberOf_12 rfl hl (by decide) rfl (fun ls hl => ?_)
    exact h_X12_numberOf_13 l S hr hlk hK N N σ_1 τ_1 x1 0 0 _ _ _ h _ _ _ hw (lv_sub hl [2, 3, 1, 0] rfl)
  · rw [if_pos c_2] at h
    refine lv_iconst (v := (-1)) hx hb dX12_numberOf_7 (by decide) ?_
    obtain ⟨rfl, rfl, rfl⟩ := sm_inj h
    exact gx_ri (post := gq_p (-1) σ_1 τ_1) (v := (-1)) S hr hlk hw rfl dX12_numberOf_8 ⟨rfl, rfl, rfl⟩
set_option maxHeartbeats 4000000 in
set_option maxRecDepth 100000 in
theorem c_X12_numberOf (l : Launch) {E : gE} (N : Nat) (σ : gI) (τ : gJ) (x1 : Int32) {r : Int32} {σ1 : gI} {τ1 : gJ} (h : B_X12_numberOf_0 N σ τ x1 = some (r, σ1, τ1)) : gx_Mi l yX12_numberOf cX12_numberOf 4 (some .int) 2 gx_tb E σ τ [.ref (E.2.2 + 199), .int x1] (gq_p r σ1 τ1) := by
  refine gx_bi (by decide +kernel) (Nat.le_of_ble_eq_true rfl) ?_
  intro P9 e9 s m9 below meth C9 S hr hlk hK hw ls hl
  have hl : lv_has ls 4 [(0, .ref (E.2.2 + 199)), (1, .int x1)] := hl
  exact b_X12_numberOf_0 l S hr hlk hK N σ τ x1 h hw hl
/-! X12_takes -/
def B_X12_takes_29 (N : Nat) (σ : gI) (τ : gJ) (y0 : Int32) : Option (Int32 × gI × gJ) := bd (B_X12_flag_0 N σ τ y0) fun r_1 σ_1 τ_1 => nm (up2 σ_1 199 14 ((σ 199 14) + r_1)) fun σ_2 => cb y0 <| some (y0, σ_2, τ_1)
def B_X12_takes_0 (N : Nat) (σ : gI) (τ : gJ) (x1 : Int32) : Option (Int32 × gI × gJ) := if σ 199 15 ≤ σ 199 14 then (B_X12_takes_29 N σ τ 0) else (ck (σ 199 14) 80 fun j_2 => if σ 208 j_2 = x1 then (B_X12_takes_29 N σ τ 1) else (B_X12_takes_29 N σ τ 0))
set_option maxHeartbeats 4000000 in
set_option maxRecDepth 100000 in
theorem b_X12_takes_29 (l : Launch) (S : CallFix P9 m9 C9 cX12_takes 3 s av.toArray gx_G RX12) (hr : meth.sig.returnType = (some .boolean)) (hlk : meth.locks = false) (hK : gx_K E s) (N : Nat) (σ : gI) (τ : gJ) (y0 : Int32) {r : Int32} {σ1 : gI} {τ1 : gJ} (h : B_X12_takes_29 N σ τ y0 = some (r, σ1, τ1)) {H : Heap} {locs : List Loc} {ls : Array Slot} (hw : gx_W gx_tb gx_tb.length E s σ τ H locs) (hl : lv_has ls 3 [(0, .ref (E.2.2 + 199))]) : W P9 l e9 (gx_rm 1) s m9 av.toArray below meth C9 H locs 0 0 (gq_Qi below av s E r σ1 τ1) (F0 m9 29 ls [.int y0]) := by
  have hx := S.1
  have hb := S.2.1
  unfold B_X12_takes_29 at h
  refine lv_istore_n (lv' := [(2, .int y0), (0, .ref (E.2.2 + 199))]) hx hb dX12_takes_29 rfl hl (by decide) rfl (fun ls hl => ?_)
  refine lv_aload_n hx hb dX12_takes_30 rfl (lv_at hl 1 rfl) ?_
  refine lv_dup hx hb dX12_takes_31 rfl ?_
  refine gx_get S hK hw t_199 cl_13 14 (by decide) rfl mw_1428 rfl dX12_takes_32 ?_
  refine lv_iload_n hx hb dX12_takes_35 rfl (lv_at hl 0 rfl) ?_
  obtain ⟨r_1, σ_1, τ_1, q_1, h⟩ := bd_some h
  refine gx_cSi (As := [.int y0]) (rest := [.int (σ 199 14), .ref (E.2.2 + 199)]) S hK gx_ok hw (c_X12_flag l (E := E) N σ τ y0 q_1) cw_X12_155 ⟨Nat.le_of_ble_eq_true rfl, Nat.le_of_ble_eq_true rfl⟩ rfl hl.1 rfl (Nat.le_of_ble_eq_true rfl) ⟨Nat.le_of_ble_eq_true rfl, Nat.le_of_ble_eq_true rfl⟩ dX12_takes_36 (fun r9 σ9 τ9 H locs hp hw => ?_)
  obtain ⟨rfl, rfl, rfl⟩ := hp
  refine lv_iadd hx hb dX12_takes_39 ?_
  refine gx_put S hK gx_ok hw t_199 cl_13 14 (by decide) rfl mw_1428 rfl rfl (ty := .int) (v := (σ 199 14) + r_1) (by decide +kernel) rfl rfl dX12_takes_40 (fun H locs hw => ?_)
  obtain ⟨σ_2, e_2, h⟩ := nm_some h
  rw [← e_2] at hw
  refine lv_iload_n hx hb dX12_takes_43 rfl (lv_at hl 0 rfl) ?_
  obtain ⟨hq_3, h⟩ := cb_some h
  obtain ⟨rfl, rfl, rfl⟩ := sm_inj h
  exact gx_ri (post := gq_p y0 σ_2 τ_1) (v := y0) S hr hlk hw (cb_nar hq_3) dX12_takes_44 ⟨rfl, rfl, rfl⟩
set_option maxHeartbeats 4000000 in
set_option maxRecDepth 100000 in
theorem b_X12_takes_0 (l : Launch) (S : CallFix P9 m9 C9 cX12_takes 3 s av.toArray gx_G RX12) (hr : meth.sig.returnType = (some .boolean)) (hlk : meth.locks = false) (hK : gx_K E s) (N : Nat) (σ : gI) (τ : gJ) (x1 : Int32) {r : Int32} {σ1 : gI} {τ1 : gJ} (h : B_X12_takes_0 N σ τ x1 = some (r, σ1, τ1)) {H : Heap} {locs : List Loc} {ls : Array Slot} (hw : gx_W gx_tb gx_tb.length E s σ τ H locs) (hl : lv_has ls 3 [(0, .ref (E.2.2 + 199)), (1, .int x1)]) : W P9 l e9 (gx_rm 1) s m9 av.toArray below meth C9 H locs 0 0 (gq_Qi below av s E r σ1 τ1) (F0 m9 0 ls []) := by
  have hx := S.1
  have hb := S.2.1
  unfold B_X12_takes_0 at h
  refine lv_aload_n hx hb dX12_takes_0 rfl (lv_at hl 0 rfl) ?_
  refine gx_get S hK hw t_199 cl_13 14 (by decide) rfl mw_1428 rfl dX12_takes_1 ?_
  refine lv_aload_n hx hb dX12_takes_4 rfl (lv_at hl 0 rfl) ?_
  refine gx_get S hK hw t_199 cl_13 15 (by decide) rfl mw_1429 rfl dX12_takes_5 ?_
  refine lv_icmp_ge (tgt := 28) hx hb dX12_takes_8 (by decide) (fun c_1 => ?_) (fun c_1 => ?_)
  · rw [if_pos c_1] at h
    refine lv_iconst (v := 0) hx hb dX12_takes_28 (by decide) ?_
    exact b_X12_takes_29 l S hr hlk hK N σ τ 0 h hw (lv_sub hl [0] rfl)
  · rw [if_neg c_1] at h
    refine lv_aload_n hx hb dX12_takes_11 rfl (lv_at hl 0 rfl) ?_
    refine gx_getr (j := 208) S hK hw t_199 cl_13 12 (by decide) rfl mw_1426 rfl dX12_takes_12 ?_
    refine lv_aload_n hx hb dX12_takes_15 rfl (lv_at hl 0 rfl) ?_
    refine gx_get S hK hw t_199 cl_13 14 (by decide) rfl mw_1428 rfl dX12_takes_16 ?_
    obtain ⟨j_2, hj_2, hi_2, h⟩ := ck_some h
    refine gx_iald S hK hw t_208 j_2 hj_2 hi_2 dX12_takes_19 ?_
    refine lv_iload_n hx hb dX12_takes_20 rfl (lv_at hl 1 rfl) ?_
    refine lv_icmp_ne (tgt := 28) hx hb dX12_takes_21 (by decide) (fun c_3 => ?_) (fun c_3 => ?_)
    · rw [if_neg c_3] at h
      refine lv_iconst (v := 0) hx hb dX12_takes_28 (by decide) ?_
      exact b_X12_takes_29 l S hr hlk hK N σ τ 0 h hw (lv_sub hl [0] rfl)
    · rw [if_pos c_3] at h
      refine lv_iconst (v := 1) hx hb dX12_takes_24 (by decide) ?_
      refine lv_goto (tgt := 29) hx hb dX12_takes_25 (by decide) ?_
      exact b_X12_takes_29 l S hr hlk hK N σ τ 1 h hw (lv_sub hl [0] rfl)
set_option maxHeartbeats 4000000 in
set_option maxRecDepth 100000 in
theorem c_X12_takes (l : Launch) {E : gE} (N : Nat) (σ : gI) (τ : gJ) (x1 : Int32) {r : Int32} {σ1 : gI} {τ1 : gJ} (h : B_X12_takes_0 N σ τ x1 = some (r, σ1, τ1)) : gx_Mi l yX12_takes cX12_takes 3 (some .boolean) 1 gx_tb E σ τ [.ref (E.2.2 + 199), .int x1] (gq_p r σ1 τ1) := by
  refine gx_bi (by decide +kernel) (Nat.le_of_ble_eq_true rfl) ?_
  intro P9 e9 s m9 below meth C9 S hr hlk hK hw ls hl
  have hl : lv_has ls 3 [(0, .ref (E.2.2 + 199)), (1, .int x1)] := hl
  exact b_X12_takes_0 l S hr hlk hK N σ τ x1 h hw hl
/-! X12_readsAct -/
def B_X12_readsAct_82 (N : Nat) (σ : gI) (τ : gJ) (x1 : Int32) (y0 : Int32) (y1 : Int32) : Option (Int32 × gI × gJ) := ck y1 60 fun j_1 => nm (up2 σ 221 j_1 y0) fun σ_2 => ck x1 60 fun j_3 => if σ_2 221 j_3 < 0 then (if σ_2 221 j_3 < 0 then (some (0, σ_2, τ)) else (some (1, σ_2, τ))) else (if σ_2 220 j_3 = 1 then (if σ_2 221 j_3 < 0 then (some (0, σ_2, τ)) else (some (1, σ_2, τ))) else (if σ_2 220 j_3 = 2 then (if σ_2 221 j_3 < 0 then (some (0, σ_2, τ)) else (some (1, σ_2, τ))) else (if σ_2 220 j_3 = 3 then (bd (B_X12_takesOf_0 N sb_20 σ_2 τ) fun r_20 σ_20 τ_20 => nm (up2 σ_20 222 j_3 (1 + r_20)) fun σ_21 => if σ_21 222 j_3 ≤ 0 then (some (0, σ_21, τ_20)) else (some (1, σ_21, τ_20))) else (bd (B_X12_numberOf_0 N σ_2 τ 2) fun r_10 σ_10 τ_10 => nm (up2 σ_10 222 j_3 r_10) fun σ_11 => if 0 ≤ σ_11 222 j_3 then (bd (B_X12_takes_0 N σ_11 τ_10 43) fun r_13 σ_13 τ_13 => if r_13 = 0 then (nm (up2 σ_13 223 j_3 0) fun σ_15 => if σ_15 223 j_3 < 0 then (some (0, σ_15, τ_13)) else (some (1, σ_15, τ_13))) else (bd (B_X12_numberOf_0 N σ_13 τ_13 1) fun r_17 σ_17 τ_17 => nm (up2 σ_17 223 j_3 r_17) fun σ_18 => if σ_18 223 j_3 < 0 then (some (0, σ_18, τ_17)) else (some (1, σ_18, τ_17)))) else (some (0, σ_11, τ_10))))))
def B_X12_readsAct_0 (N : Nat) (σ : gI) (τ : gJ) : Option (Int32 × gI × gJ) := nm (σ 199 42) fun v_1 => bd (B_X12_takesOf_0 N sb_19 σ τ) fun r_2 σ_2 τ_2 => ck v_1 60 fun j_3 => nm (up2 σ_2 220 j_3 r_2) fun σ_4 => nm (up2 σ_4 199 42 ((σ_4 199 42) + 1)) fun σ_5 => if 0 ≤ σ_5 220 j_3 then (if 2 ≤ σ_5 220 j_3 then (if σ_5 220 j_3 = 2 then (bd (B_X12_numberOf_0 N σ_5 τ_2 2) fun r_10 σ_10 τ_10 => B_X12_readsAct_82 N σ_10 τ_10 v_1 r_10 v_1) else (bd (B_X12_numberOf_0 N σ_5 τ_2 1) fun r_9 σ_9 τ_9 => B_X12_readsAct_82 N σ_9 τ_9 v_1 r_9 v_1)) else (bd (B_X12_takesOf_0 N sb_10 σ_5 τ_2) fun r_11 σ_11 τ_11 => B_X12_readsAct_82 N σ_11 τ_11 v_1 r_11 v_1)) else (some (0, σ_5, τ_2))
set_option maxHeartbeats 4000000 in
set_option maxRecDepth 100000 in
theorem b_X12_readsAct_82 (l : Launch) (S : CallFix P9 m9 C9 cX12_readsAct 2 s av.toArray gx_G RX12) (hr : meth.sig.returnType = (some .boolean)) (hlk : meth.locks = false) (hK : gx_K E s) (N : Nat) (σ : gI) (τ : gJ) (x1 : Int32) (y0 : Int32) (y1 : Int32) {r : Int32} {σ1 : gI} {τ1 : gJ} (h : B_X12_readsAct_82 N σ τ x1 y0 y1 = some (r, σ1, τ1)) {H : Heap} {locs : List Loc} {ls : Array Slot} (hw : gx_W gx_tb gx_tb.length E s σ τ H locs) (hl : lv_has ls 2 [(0, .ref (E.2.2 + 199)), (1, .int x1)]) : W P9 l e9 (gx_rm 6) s m9 av.toArray below meth C9 H locs 0 0 (gq_Qi below av s E r σ1 τ1) (F0 m9 82 ls [.int y0, .int y1, .ref (E.2.2 + 221)]) := by
  have hx := S.1
  have hb := S.2.1
  unfold B_X12_readsAct_82 at h
  obtain ⟨j_1, hj_1, hi_1, h⟩ := ck_some h
  refine gx_iast S hK gx_ok hw t_221 j_1 hj_1 hi_1 dX12_readsAct_82 (fun H locs hw => ?_)
  obtain ⟨σ_2, e_2, h⟩ := nm_some h
  rw [← e_2] at hw
  refine lv_aload_n hx hb dX12_readsAct_83 rfl (lv_at hl 0 rfl) ?_
  refine gx_getr (j := 221) S hK hw t_199 cl_13 39 (by decide) rfl mw_1453 rfl dX12_readsAct_84 ?_
  refine lv_iload_n hx hb dX12_readsAct_87 rfl (lv_at hl 1 rfl) ?_
  obtain ⟨j_3, hj_3, hi_3, h⟩ := ck_some h
  refine gx_iald S hK hw t_221 j_3 hj_3 hi_3 dX12_readsAct_88 ?_
  refine lv_if_lt (tgt := 112) hx hb dX12_readsAct_89 (by decide) (fun c_4 => ?_) (fun c_4 => ?_)
  · rw [if_pos c_4] at h
    refine lv_aload_n hx hb dX12_readsAct_112 rfl (lv_at hl 0 rfl) ?_
    refine gx_getr (j := 221) S hK hw t_199 cl_13 39 (by decide) rfl mw_1453 rfl dX12_readsAct_113 ?_
    refine lv_iload_n hx hb dX12_readsAct_116 rfl (lv_at hl 1 rfl) ?_
    refine gx_iald S hK hw t_221 j_3 hj_3 hi_3 dX12_readsAct_117 ?_
    refine lv_if_lt (tgt := 125) hx hb dX12_readsAct_118 (by decide) (fun c_5 => ?_) (fun c_5 => ?_)
    · rw [if_pos c_5] at h
      refine lv_iconst (v := 0) hx hb dX12_readsAct_125 (by decide) ?_
      obtain ⟨rfl, rfl, rfl⟩ := sm_inj h
      exact gx_ri (post := gq_p 0 σ_2 τ) (v := 0) S hr hlk hw rfl dX12_readsAct_126 ⟨rfl, rfl, rfl⟩
    · rw [if_neg c_5] at h
      refine lv_iconst (v := 1) hx hb dX12_readsAct_121 (by decide) ?_
      refine lv_goto (tgt := 126) hx hb dX12_readsAct_122 (by decide) ?_
      obtain ⟨rfl, rfl, rfl⟩ := sm_inj h
      exact gx_ri (post := gq_p 1 σ_2 τ) (v := 1) S hr hlk hw rfl dX12_readsAct_126 ⟨rfl, rfl, rfl⟩
  · rw [if_neg c_4] at h
    refine lv_aload_n hx hb dX12_readsAct_92 rfl (lv_at hl 0 rfl) ?_
    refine gx_getr (j := 220) S hK hw t_199 cl_13 38 (by decide) rfl mw_1452 rfl dX12_readsAct_93 ?_
    refine lv_iload_n hx hb dX12_readsAct_96 rfl (lv_at hl 1 rfl) ?_
    refine gx_iald S hK hw t_220 j_3 hj_3 hi_3 dX12_readsAct_97 ?_
    refine lv_iconst (v := 1) hx hb dX12_readsAct_98 (by decide) ?_
    refine lv_icmp_eq (tgt := 112) hx hb dX12_readsAct_99 (by decide) (fun c_6 => ?_) (fun c_6 => ?_)
    · rw [if_pos c_6] at h
      refine lv_aload_n hx hb dX12_readsAct_112 rfl (lv_at hl 0 rfl) ?_
      refine gx_getr (j := 221) S hK hw t_199 cl_13 39 (by decide) rfl mw_1453 rfl dX12_readsAct_113 ?_
      refine lv_iload_n hx hb dX12_readsAct_116 rfl (lv_at hl 1 rfl) ?_
      refine gx_iald S hK hw t_221 j_3 hj_3 hi_3 dX12_readsAct_117 ?_
      refine lv_if_lt (tgt := 125) hx hb dX12_readsAct_118 (by decide) (fun c_7 => ?_) (fun c_7 => ?_)
      · rw [if_pos c_7] at h
        refine lv_iconst (v := 0) hx hb dX12_readsAct_125 (by decide) ?_
        obtain ⟨rfl, rfl, rfl⟩ := sm_inj h
        exact gx_ri (post := gq_p 0 σ_2 τ) (v := 0) S hr hlk hw rfl dX12_readsAct_126 ⟨rfl, rfl, rfl⟩
      · rw [if_neg c_7] at h
        refine lv_iconst (v := 1) hx hb dX12_readsAct_121 (by decide) ?_
        refine lv_goto (tgt := 126) hx hb dX12_readsAct_122 (by decide) ?_
        obtain ⟨rfl, rfl, rfl⟩ := sm_inj h
        exact gx_ri (post := gq_p 1 σ_2 τ) (v := 1) S hr hlk hw rfl dX12_readsAct_126 ⟨rfl, rfl, rfl⟩
    · rw [if_neg c_6] at h
      refine lv_aload_n hx hb dX12_readsAct_102 rfl (lv_at hl 0 rfl) ?_
      refine gx_getr (j := 220) S hK hw t_199 cl_13 38 (by decide) rfl mw_1452 rfl dX12_readsAct_103 ?_
      refine lv_iload_n hx hb dX12_readsAct_106 rfl (lv_at hl 1 rfl) ?_
      refine gx_iald S hK hw t_220 j_3 hj_3 hi_3 dX12_readsAct_107 ?_
      refine lv_iconst (v := 2) hx hb dX12_readsAct_108 (by decide) ?_
      refine lv_icmp_ne (tgt := 127) hx hb dX12_readsAct_109 (by decide) (fun c_8 => ?_) (fun c_8 => ?_)
      · rw [if_neg c_8] at h
        refine lv_aload_n hx hb dX12_readsAct_127 rfl (lv_at hl 0 rfl) ?_
        refine gx_getr (j := 220) S hK hw t_199 cl_13 38 (by decide) rfl mw_1452 rfl dX12_readsAct_128 ?_
        refine lv_iload_n hx hb dX12_readsAct_131 rfl (lv_at hl 1 rfl) ?_
        refine gx_iald S hK hw t_220 j_3 hj_3 hi_3 dX12_readsAct_132 ?_
        refine lv_iconst (v := 3) hx hb dX12_readsAct_133 (by decide) ?_
        refine lv_icmp_ne (tgt := 167) hx hb dX12_readsAct_134 (by decide) (fun c_9 => ?_) (fun c_9 => ?_)
        · rw [if_neg c_9] at h
          refine lv_aload_n hx hb dX12_readsAct_167 rfl (lv_at hl 0 rfl) ?_
          refine gx_getr (j := 222) S hK hw t_199 cl_13 40 (by decide) rfl mw_1454 rfl dX12_readsAct_168 ?_
          refine lv_iload_n hx hb dX12_readsAct_171 rfl (lv_at hl 1 rfl) ?_
          refine lv_aload_n hx hb dX12_readsAct_172 rfl (lv_at hl 0 rfl) ?_
          refine lv_iconst (v := 2) hx hb dX12_readsAct_173 (by decide) ?_
          obtain ⟨r_10, σ_10, τ_10, q_10, h⟩ := bd_some h
          refine gx_cVi (As := [.int 2]) (rest := [.int x1, .ref (E.2.2 + 222)]) S hK gx_ok hw (c_X12_numberOf l (E := E) N σ_2 τ 2 q_10) cw_X12_238 t_199 cl_13 ⟨Nat.le_of_ble_eq_true rfl, Nat.le_of_ble_eq_true rfl⟩ rfl hl.1 rfl (Nat.le_of_ble_eq_true rfl) ⟨Nat.le_of_ble_eq_true rfl, Nat.le_of_ble_eq_true rfl⟩ dX12_readsAct_174 (fun r9 σ9 τ9 H locs hp hw => ?_)
          obtain ⟨rfl, rfl, rfl⟩ := hp
          refine gx_iast S hK gx_ok hw t_222 j_3 hj_3 hi_3 dX12_readsAct_177 (fun H locs hw => ?_)
          obtain ⟨σ_11, e_11, h⟩ := nm_some h
          rw [← e_11] at hw
          refine lv_aload_n hx hb dX12_readsAct_178 rfl (lv_at hl 0 rfl) ?_
          refine gx_getr (j := 222) S hK hw t_199 cl_13 40 (by decide) rfl mw_1454 rfl dX12_readsAct_179 ?_
          refine lv_iload_n hx hb dX12_readsAct_182 rfl (lv_at hl 1 rfl) ?_
          refine gx_iald S hK hw t_222 j_3 hj_3 hi_3 dX12_readsAct_183 ?_
          refine lv_if_ge (tgt := 189) hx hb dX12_readsAct_184 (by decide) (fun c_12 => ?_) (fun c_12 => ?_)
          · rw [if_pos c_12] at h
            refine lv_aload_n hx hb dX12_readsAct_189 rfl (lv_at hl 0 rfl) ?_
            refine gx_getr (j := 223) S hK hw t_199 cl_13 41 (by decide) rfl mw_1455 rfl dX12_readsAct_190 ?_
            refine lv_iload_n hx hb dX12_readsAct_193 rfl (lv_at hl 1 rfl) ?_
            refine lv_aload_n hx hb dX12_readsAct_194 rfl (lv_at hl 0 rfl) ?_
            refine lv_bipush (v := 43) hx hb dX12_readsAct_195 (by decide) ?_
            obtain ⟨r_13, σ_13, τ_13, q_13, h⟩ := bd_some h
            refine gx_cVi (As := [.int 43]) (rest := [.int x1, .ref (E.2.2 + 223)]) S hK gx_ok hw (c_X12_takes l (E := E) N σ_11 τ_10 43 q_13) cw_X12_210 t_199 cl_13 ⟨Nat.le_of_ble_eq_true rfl, Nat.le_of_ble_eq_true rfl⟩ rfl hl.1 rfl (Nat.le_of_ble_eq_true rfl) ⟨Nat.le_of_ble_eq_true rfl, Nat.le_of_ble_eq_true rfl⟩ dX12_readsAct_197 (fun r9 σ9 τ9 H locs hp hw => ?_)
            obtain ⟨rfl, rfl, rfl⟩ := hp
            refine lv_if_eq (tgt := 211) hx hb dX12_readsAct_200 (by decide) (fun c_14 => ?_) (fun c_14 => ?_)
            · rw [if_pos c_14] at h
              refine lv_iconst (v := 0) hx hb dX12_readsAct_211 (by decide) ?_
              refine gx_iast S hK gx_ok hw t_223 j_3 hj_3 hi_3 dX12_readsAct_212 (fun H locs hw => ?_)
              obtain ⟨σ_15, e_15, h⟩ := nm_some h
              rw [← e_15] at hw
              refine lv_aload_n hx hb dX12_readsAct_213 rfl (lv_at hl 0 rfl) ?_
              refine gx_getr (j := 223) S hK hw t_199 cl_13 41 (by decide) rfl mw_1455 rfl dX12_readsAct_214 ?_
              refine lv_iload_n hx hb dX12_readsAct_217 rfl (lv_at hl 1 rfl) ?_
              refine gx_iald S hK hw t_223 j_3 hj_3 hi_3 dX12_readsAct_218 ?_
              refine lv_if_lt (tgt := 226) hx hb dX12_readsAct_219 (by decide) (fun c_16 => ?_) (fun c_16 => ?_)
              · rw [if_pos c_16] at h
                refine lv_iconst (v := 0) hx hb dX12_readsAct_226 (by decide) ?_
                obtain ⟨rfl, rfl, rfl⟩ := sm_inj h
                exact gx_ri (post := gq_p 0 σ_15 τ_13) (v := 0) S hr hlk hw rfl dX12_readsAct_227 ⟨rfl, rfl, rfl⟩
              · rw [if_neg c_16] at h
                refine lv_iconst (v := 1) hx hb dX12_readsAct_222 (by decide) ?_
                refine lv_goto (tgt := 227) hx hb dX12_readsAct_223 (by decide) ?_
                obtain ⟨rfl, rfl, rfl⟩ := sm_inj h
                exact gx_ri (post := gq_p 1 σ_15 τ_13) (v := 1) S hr hlk hw rfl dX12_readsAct_227 ⟨rfl, rfl, rfl⟩
            · rw [if_neg c_14] at h
              refine lv_aload_n hx hb dX12_readsAct_203 rfl (lv_at hl 0 rfl) ?_
              refine lv_iconst (v := 1) hx hb dX12_readsAct_204 (by decide) ?_
              obtain ⟨r_17, σ_17, τ_17, q_17, h⟩ := bd_some h
              refine gx_cVi (As := [.int 1]) (rest := [.int x1, .ref (E.2.2 + 223)]) S hK gx_ok hw (c_X12_numberOf l (E := E) N σ_13 τ_13 1 q_17) cw_X12_238 t_199 cl_13 ⟨Nat.le_of_ble_eq_true rfl, Nat.le_of_ble_eq_true rfl⟩ rfl hl.1 rfl (Nat.le_of_ble_eq_true rfl) ⟨Nat.le_of_ble_eq_true rfl, Nat.le_of_ble_eq_true rfl⟩ dX12_readsAct_205 (fun r9 σ9 τ9 H locs hp hw => ?_)
              obtain ⟨rfl, rfl, rfl⟩ := hp
              refine lv_goto (tgt := 212) hx hb dX12_readsAct_208 (by decide) ?_
              refine gx_iast S hK gx_ok hw t_223 j_3 hj_3 hi_3 dX12_readsAct_212 (fun H locs hw => ?_)
              obtain ⟨σ_18, e_18, h⟩ := nm_some h
              rw [← e_18] at hw
              refine lv_aload_n hx hb dX12_readsAct_213 rfl (lv_at hl 0 rfl) ?_
              refine gx_getr (j := 223) S hK hw t_199 cl_13 41 (by decide) rfl mw_1455 rfl dX12_readsAct_214 ?_
              refine lv_iload_n hx hb dX12_readsAct_217 rfl (lv_at hl 1 rfl) ?_
              refine gx_iald S hK hw t_223 j_3 hj_3 hi_3 dX12_readsAct_218 ?_
              refine lv_if_lt (tgt := 226) hx hb dX12_readsAct_219 (by decide) (fun c_19 => ?_) (fun c_19 => ?_)
              · rw [if_pos c_19] at h
                refine lv_iconst (v := 0) hx hb dX12_readsAct_226 (by decide) ?_
                obtain ⟨rfl, rfl, rfl⟩ := sm_inj h
                exact gx_ri (post := gq_p 0 σ_18 τ_17) (v := 0) S hr hlk hw rfl dX12_readsAct_227 ⟨rfl, rfl, rfl⟩
              · rw [if_neg c_19] at h
                refine lv_iconst (v := 1) hx hb dX12_readsAct_222 (by decide) ?_
                refine lv_goto (tgt := 227) hx hb dX12_readsAct_223 (by decide) ?_
                obtain ⟨rfl, rfl, rfl⟩ := sm_inj h
                exact gx_ri (post := gq_p 1 σ_18 τ_17) (v := 1) S hr hlk hw rfl dX12_readsAct_227 ⟨rfl, rfl, rfl⟩
          · rw [if_neg c_12] at h
            refine lv_iconst (v := 0) hx hb dX12_readsAct_187 (by decide) ?_
            obtain ⟨rfl, rfl, rfl⟩ := sm_inj h
            exact gx_ri (post := gq_p 0 σ_11 τ_10) (v := 0) S hr hlk hw rfl dX12_readsAct_188 ⟨rfl, rfl, rfl⟩
        · rw [if_pos c_9] at h
          refine lv_aload_n hx hb dX12_readsAct_137 rfl (lv_at hl 0 rfl) ?_
          refine gx_getr (j := 222) S hK hw t_199 cl_13 40 (by decide) rfl mw_1454 rfl dX12_readsAct_138 ?_
          refine lv_iload_n hx hb dX12_readsAct_141 rfl (lv_at hl 1 rfl) ?_
          refine lv_iconst (v := 1) hx hb dX12_readsAct_142 (by decide) ?_
          refine lv_aload_n hx hb dX12_readsAct_143 rfl (lv_at hl 0 rfl) ?_
          refine gx_ldsw S hK ss_20 rfl dX12_readsAct_144 ?_
          obtain ⟨r_20, σ_20, τ_20, q_20, h⟩ := bd_some h
          refine zs_V (As := [.ref (E.1.2.1 20)]) (rest := [.int 1, .int x1, .ref (E.2.2 + 222)]) S hK hw (zs_k hK hw zk_20) (c_X12_takesOf l (E := E) N sb_20 σ_2 τ q_20) rfl cw_X12_183 (va_recv hK.1 hw.1 cl_13.1 (gx_at t_199)) ⟨Nat.le_of_ble_eq_true rfl, Nat.le_of_ble_eq_true rfl⟩ rfl hl.1 rfl (Nat.le_of_ble_eq_true rfl) ⟨Nat.le_of_ble_eq_true rfl, Nat.le_of_ble_eq_true rfl⟩ dX12_readsAct_147 (fun r9 σ9 τ9 H locs hp hw => ?_)
          obtain ⟨rfl, rfl, rfl⟩ := hp
          refine lv_iadd hx hb dX12_readsAct_150 ?_
          refine gx_iast S hK gx_ok hw t_222 j_3 hj_3 hi_3 dX12_readsAct_151 (fun H locs hw => ?_)
          obtain ⟨σ_21, e_21, h⟩ := nm_some h
          rw [← e_21] at hw
          refine lv_aload_n hx hb dX12_readsAct_152 rfl (lv_at hl 0 rfl) ?_
          refine gx_getr (j := 222) S hK hw t_199 cl_13 40 (by decide) rfl mw_1454 rfl dX12_readsAct_153 ?_
          refine lv_iload_n hx hb dX12_readsAct_156 rfl (lv_at hl 1 rfl) ?_
          refine gx_iald S hK hw t_222 j_3 hj_3 hi_3 dX12_readsAct_157 ?_
          refine lv_if_le (tgt := 165) hx hb dX12_readsAct_158 (by decide) (fun c_22 => ?_) (fun c_22 => ?_)
          · rw [if_pos c_22] at h
            refine lv_iconst (v := 0) hx hb dX12_readsAct_165 (by decide) ?_
            obtain ⟨rfl, rfl, rfl⟩ := sm_inj h
            exact gx_ri (post := gq_p 0 σ_21 τ_20) (v := 0) S hr hlk hw rfl dX12_readsAct_166 ⟨rfl, rfl, rfl⟩
          · rw [if_neg c_22] at h
            refine lv_iconst (v := 1) hx hb dX12_readsAct_161 (by decide) ?_
            refine lv_goto (tgt := 166) hx hb dX12_readsAct_162 (by decide) ?_
            obtain ⟨rfl, rfl, rfl⟩ := sm_inj h
            exact gx_ri (post := gq_p 1 σ_21 τ_20) (v := 1) S hr hlk hw rfl dX12_readsAct_166 ⟨rfl, rfl, rfl⟩
      · rw [if_pos c_8] at h
        refine lv_aload_n hx hb dX12_readsAct_112 rfl (lv_at hl 0 rfl) ?_
        refine gx_getr (j := 221) S hK hw t_199 cl_13 39 (by decide) rfl mw_1453 rfl dX12_readsAct_113 ?_
        refine lv_iload_n hx hb dX12_readsAct_116 rfl (lv_at hl 1 rfl) ?_
        refine gx_iald S hK hw t_221 j_3 hj_3 hi_3 dX12_readsAct_117 ?_
        refine lv_if_lt (tgt := 125) hx hb dX12_readsAct_118 (by decide) (fun c_23 => ?_) (fun c_23 => ?_)
        · rw [if_pos c_23] at h
          refine lv_iconst (v := 0) hx hb dX12_readsAct_125 (by decide) ?_
          obtain ⟨rfl, rfl, rfl⟩ := sm_inj h
          exact gx_ri (post := gq_p 0 σ_2 τ) (v := 0) S hr hlk hw rfl dX12_readsAct_126 ⟨rfl, rfl, rfl⟩
        · rw [if_neg c_23] at h
          refine lv_iconst (v := 1) hx hb dX12_readsAct_121 (by decide) ?_
          refine lv_goto (tgt := 126) hx hb dX12_readsAct_122 (by decide) ?_
          obtain ⟨rfl, rfl, rfl⟩ := sm_inj h
          exact gx_ri (post := gq_p 1 σ_2 τ) (v := 1) S hr hlk hw rfl dX12_readsAct_126 ⟨rfl, rfl, rfl⟩
set_option maxHeartbeats 4000000 in
set_option maxRecDepth 100000 in
theorem b_X12_readsAct_0 (l : Launch) (S : CallFix P9 m9 C9 cX12_readsAct 2 s av.toArray gx_G RX12) (hr : meth.sig.returnType = (some .boolean)) (hlk : meth.locks = false) (hK : gx_K E s) (N : Nat) (σ : gI) (τ : gJ) {r : Int32} {σ1 : gI} {τ1 : gJ} (h : B_X12_readsAct_0 N σ τ = some (r, σ1, τ1)) {H : Heap} {locs : List Loc} {ls : Array Slot} (hw : gx_W gx_tb gx_tb.length E s σ τ H locs) (hl : lv_has ls 2 [(0, .ref (E.2.2 + 199))]) : W P9 l e9 (gx_rm 6) s m9 av.toArray below meth C9 H locs 0 0 (gq_Qi below av s E r σ1 τ1) (F0 m9 0 ls []) := by
  have hx := S.1
  have hb := S.2.1
  unfold B_X12_readsAct_0 at h
  refine lv_aload_n hx hb dX12_readsAct_0 rfl (lv_at hl 0 rfl) ?_
  refine gx_get S hK hw t_199 cl_13 42 (by decide) rfl mw_1456 rfl dX12_readsAct_1 ?_
  refine lv_istore_n (lv' := [(1, .int (σ 199 42)), (0, .ref (E.2.2 + 199))]) hx hb dX12_readsAct_4 rfl hl (by decide) rfl (fun ls hl => ?_)
  obtain ⟨v_1, e_1, h⟩ := nm_some h
  have hl : lv_has ls 2 [(1, .int v_1), (0, .ref (E.2.2 + 199))] := by rw [e_1]; exact hl
  refine lv_aload_n hx hb dX12_readsAct_5 rfl (lv_at hl 1 rfl) ?_
  refine gx_getr (j := 220) S hK hw t_199 cl_13 38 (by decide) rfl mw_1452 rfl dX12_readsAct_6 ?_
  refine lv_iload_n hx hb dX12_readsAct_9 rfl (lv_at hl 0 rfl) ?_
  refine lv_aload_n hx hb dX12_readsAct_10 rfl (lv_at hl 1 rfl) ?_
  refine gx_ldsw S hK ss_19 rfl dX12_readsAct_11 ?_
  obtain ⟨r_2, σ_2, τ_2, q_2, h⟩ := bd_some h
  refine zs_V (As := [.ref (E.1.2.1 19)]) (rest := [.int v_1, .ref (E.2.2 + 220)]) S hK hw (zs_k hK hw zk_19) (c_X12_takesOf l (E := E) N sb_19 σ τ q_2) rfl cw_X12_183 (va_recv hK.1 hw.1 cl_13.1 (gx_at t_199)) ⟨Nat.le_of_ble_eq_true rfl, Nat.le_of_ble_eq_true rfl⟩ rfl hl.1 rfl (Nat.le_of_ble_eq_true rfl) ⟨Nat.le_of_ble_eq_true rfl, Nat.le_of_ble_eq_true rfl⟩ dX12_readsAct_14 (fun r9 σ9 τ9 H locs hp hw => ?_)
  obtain ⟨rfl, rfl, rfl⟩ := hp
  obtain ⟨j_3, hj_3, hi_3, h⟩ := ck_some h
  refine gx_iast S hK gx_ok hw t_220 j_3 hj_3 hi_3 dX12_readsAct_17 (fun H locs hw => ?_)
  obtain ⟨σ_4, e_4, h⟩ := nm_some h
  rw [← e_4] at hw
  refine lv_aload_n hx hb dX12_readsAct_18 rfl (lv_at hl 1 rfl) ?_
  refine lv_dup hx hb dX12_readsAct_19 rfl ?_
  refine gx_get S hK hw t_199 cl_13 42 (by decide) rfl mw_1456 rfl dX12_readsAct_20 ?_
  refine lv_iconst (v := 1) hx hb dX12_readsAct_23 (by decide) ?_
  refine lv_iadd hx hb dX12_readsAct_24 ?_
  refine gx_put S hK gx_ok hw t_199 cl_13 42 (by decide) rfl mw_1456 rfl rfl (ty := .int) (v := (σ_4 199 42) + 1) (by decide +kernel) rfl rfl dX12_readsAct_25 (fun H locs hw => ?_)
  obtain ⟨σ_5, e_5, h⟩ := nm_some h
  rw [← e_5] at hw
  refine lv_aload_n hx hb dX12_readsAct_28 rfl (lv_at hl 1 rfl) ?_
  refine gx_getr (j := 220) S hK hw t_199 cl_13 38 (by decide) rfl mw_1452 rfl dX12_readsAct_29 ?_
  refine lv_iload_n hx hb dX12_readsAct_32 rfl (lv_at hl 0 rfl) ?_
  refine gx_iald S hK hw t_220 j_3 hj_3 hi_3 dX12_readsAct_33 ?_
  refine lv_if_ge (tgt := 39) hx hb dX12_readsAct_34 (by decide) (fun c_6 => ?_) (fun c_6 => ?_)
  · rw [if_pos c_6] at h
    refine lv_aload_n hx hb dX12_readsAct_39 rfl (lv_at hl 1 rfl) ?_
    refine gx_getr (j := 221) S hK hw t_199 cl_13 39 (by decide) rfl mw_1453 rfl dX12_readsAct_40 ?_
    refine lv_iload_n hx hb dX12_readsAct_43 rfl (lv_at hl 0 rfl) ?_
    refine lv_aload_n hx hb dX12_readsAct_44 rfl (lv_at hl 1 rfl) ?_
    refine gx_getr (j := 220) S hK hw t_199 cl_13 38 (by decide) rfl mw_1452 rfl dX12_readsAct_45 ?_
    refine lv_iload_n hx hb dX12_readsAct_48 rfl (lv_at hl 0 rfl) ?_
    refine gx_iald S hK hw t_220 j_3 hj_3 hi_3 dX12_readsAct_49 ?_
    refine lv_iconst (v := 2) hx hb dX12_readsAct_50 (by decide) ?_
    refine lv_icmp_ge (tgt := 63) hx hb dX12_readsAct_51 (by decide) (fun c_7 => ?_) (fun c_7 => ?_)
    · rw [if_pos c_7] at h
      refine lv_aload_n hx hb dX12_readsAct_63 rfl (lv_at hl 1 rfl) ?_
      refine lv_aload_n hx hb dX12_readsAct_64 rfl (lv_at hl 1 rfl) ?_
      refine gx_getr (j := 220) S hK hw t_199 cl_13 38 (by decide) rfl mw_1452 rfl dX12_readsAct_65 ?_
      refine lv_iload_n hx hb dX12_readsAct_68 rfl (lv_at hl 0 rfl) ?_
      refine gx_iald S hK hw t_220 j_3 hj_3 hi_3 dX12_readsAct_69 ?_
      refine lv_iconst (v := 2) hx hb dX12_readsAct_70 (by decide) ?_
      refine lv_icmp_ne (tgt := 78) hx hb dX12_readsAct_71 (by decide) (fun c_8 => ?_) (fun c_8 => ?_)
      · rw [if_neg c_8] at h
        refine lv_iconst (v := 1) hx hb dX12_readsAct_78 (by decide) ?_
        obtain ⟨r_9, σ_9, τ_9, q_9, h⟩ := bd_some h
        refine gx_cVi (As := [.int 1]) (rest := [.int v_1, .ref (E.2.2 + 221)]) S hK gx_ok hw (c_X12_numberOf l (E := E) N σ_5 τ_2 1 q_9) cw_X12_238 t_199 cl_13 ⟨Nat.le_of_ble_eq_true rfl, Nat.le_of_ble_eq_true rfl⟩ rfl hl.1 rfl (Nat.le_of_ble_eq_true rfl) ⟨Nat.le_of_ble_eq_true rfl, Nat.le_of_ble_eq_true rfl⟩ dX12_readsAct_79 (fun r9 σ9 τ9 H locs hp hw => ?_)
        obtain ⟨rfl, rfl, rfl⟩ := hp
        exact b_X12_readsAct_82 l S hr hlk hK N σ_9 τ_9 v_1 r_9 v_1 h hw (lv_sub hl [1, 0] rfl)
      · rw [if_pos c_8] at h
        refine lv_iconst (v := 2) hx hb dX12_readsAct_74 (by decide) ?_
        refine lv_goto (tgt := 79) hx hb dX12_readsAct_75 (by decide) ?_
        obtain ⟨r_10, σ_10, τ_10, q_10, h⟩ := bd_some h
        refine gx_cVi (As := [.int 2]) (rest := [.int v_1, .ref (E.2.2 + 221)]) S hK gx_ok hw (c_X12_numberOf l (E := E) N σ_5 τ_2 2 q_10) cw_X12_238 t_199 cl_13 ⟨Nat.le_of_ble_eq_true rfl, Nat.le_of_ble_eq_true rfl⟩ rfl hl.1 rfl (Nat.le_of_ble_eq_true rfl) ⟨Nat.le_of_ble_eq_true rfl, Nat.le_of_ble_eq_true rfl⟩ dX12_readsAct_79 (fun r9 σ9 τ9 H locs hp hw => ?_)
        obtain ⟨rfl, rfl, rfl⟩ := hp
        exact b_X12_readsAct_82 l S hr hlk hK N σ_10 τ_10 v_1 r_10 v_1 h hw (lv_sub hl [1, 0] rfl)
    · rw [if_neg c_7] at h
      refine lv_aload_n hx hb dX12_readsAct_54 rfl (lv_at hl 1 rfl) ?_
      refine gx_lds S hK ss_10 rfl dX12_readsAct_55 ?_
      obtain ⟨r_11, σ_11, τ_11, q_11, h⟩ := bd_some h
      refine zs_V (As := [.ref (E.1.2.1 10)]) (rest := [.int v_1, .ref (E.2.2 + 221)]) S hK hw (zs_k hK hw zk_10) (c_X12_takesOf l (E := E) N sb_10 σ_5 τ_2 q_11) rfl cw_X12_183 (va_recv hK.1 hw.1 cl_13.1 (gx_at t_199)) ⟨Nat.le_of_ble_eq_true rfl, Nat.le_of_ble_eq_true rfl⟩ rfl hl.1 rfl (Nat.le_of_ble_eq_true rfl) ⟨Nat.le_of_ble_eq_true rfl, Nat.le_of_ble_eq_true rfl⟩ dX12_readsAct_57 (fun r9 σ9 τ9 H locs hp hw => ?_)
      obtain ⟨rfl, rfl, rfl⟩ := hp
      refine lv_goto (tgt := 82) hx hb dX12_readsAct_60 (by decide) ?_
      exact b_X12_readsAct_82 l S hr hlk hK N σ_11 τ_11 v_1 r_11 v_1 h hw (lv_sub hl [1, 0] rfl)
  · rw [if_neg c_6] at h
    refine lv_iconst (v := 0) hx hb dX12_readsAct_37 (by decide) ?_
    obtain ⟨rfl, rfl, rfl⟩ := sm_inj h
    exact gx_ri (post := gq_p 0 σ_5 τ_2) (v := 0) S hr hlk hw rfl dX12_readsAct_38 ⟨rfl, rfl, rfl⟩
set_option maxHeartbeats 4000000 in
set_option maxRecDepth 100000 in
theorem c_X12_readsAct (l : Launch) {E : gE} (N : Nat) (σ : gI) (τ : gJ) {r : Int32} {σ1 : gI} {τ1 : gJ} (h : B_X12_readsAct_0 N σ τ = some (r, σ1, τ1)) : gx_Mi l yX12_readsAct cX12_readsAct 2 (some .boolean) 6 gx_tb E σ τ [.ref (E.2.2 + 199)] (gq_p r σ1 τ1) := by
  refine gx_bi (by decide +kernel) (Nat.le_of_ble_eq_true rfl) ?_
  intro P9 e9 s m9 below meth C9 S hr hlk hK hw ls hl
  have hl : lv_has ls 2 [(0, .ref (E.2.2 + 199))] := hl
  exact b_X12_readsAct_0 l S hr hlk hK N σ τ h hw hl
/-! X12_faultOf -/
def B_X12_faultOf_20 (N : Nat) (σ : gI) (τ : gJ) (x1 : Int32) (x2 : Int32) (y0 : Int32) : Option (Int32 × gI × gJ) := if x1 ≤ x2 then (if y0 = 0 then (some ((-1) - (σ 199 14), σ, τ)) else (some (0, σ, τ))) else (if y0 = 0 then (if σ 199 14 < x2 then (if y0 = 0 then (some ((-1) - (σ 199 14), σ, τ)) else (some (0, σ, τ))) else (some ((-1) - x2, σ, τ))) else (some ((-1) - x2, σ, τ)))
def B_X12_faultOf_0 (N : Nat) (σ : gI) (τ : gJ) (x1 : Int32) (x2 : Int32) (x3 : Int32) : Option (Int32 × gI × gJ) := if x3 = 0 then (B_X12_faultOf_20 N σ τ x1 x2 0) else (if σ 199 14 = σ 199 15 then (B_X12_faultOf_20 N σ τ x1 x2 1) else (B_X12_faultOf_20 N σ τ x1 x2 0))
set_option maxHeartbeats 4000000 in
set_option maxRecDepth 100000 in
theorem b_X12_faultOf_20 (l : Launch) (S : CallFix P9 m9 C9 cX12_faultOf 5 s av.toArray gx_G RX12) (hr : meth.sig.returnType = (some .int)) (hlk : meth.locks = false) (hK : gx_K E s) (N : Nat) (σ : gI) (τ : gJ) (x1 : Int32) (x2 : Int32) (y0 : Int32) {r : Int32} {σ1 : gI} {τ1 : gJ} (h : B_X12_faultOf_20 N σ τ x1 x2 y0 = some (r, σ1, τ1)) {H : Heap} {locs : List Loc} {ls : Array Slot} (hw : gx_W gx_tb gx_tb.length E s σ τ H locs) (hl : lv_has ls 5 [(0, .ref (E.2.2 + 199)), (1, .int x1), (2, .int x2)]) : W P9 l e9 (gx_rm 0) s m9 av.toArray below meth C9 H locs 0 0 (gq_Qi below av s E r σ1 τ1) (F0 m9 20 ls [.int y0]) := by
  have hx := S.1
  have hb := S.2.1
  unfold B_X12_faultOf_20 at h
  refine lv_istore (lv' := [(4, .int y0), (0, .ref (E.2.2 + 199)), (1, .int x1), (2, .int x2)]) hx hb dX12_faultOf_20 hl (by decide) rfl (fun ls hl => ?_)
  refine lv_iload_n hx hb dX12_faultOf_22 rfl (lv_at hl 2 rfl) ?_
  refine lv_iload_n hx hb dX12_faultOf_23 rfl (lv_at hl 3 rfl) ?_
  refine lv_icmp_le (tgt := 44) hx hb dX12_faultOf_24 (by decide) (fun c_1 => ?_) (fun c_1 => ?_)
  · rw [if_pos c_1] at h
    refine lv_iload hx hb dX12_faultOf_44 (lv_at hl 0 rfl) ?_
    refine lv_if_eq (tgt := 53) hx hb dX12_faultOf_46 (by decide) (fun c_2 => ?_) (fun c_2 => ?_)
    · rw [if_pos c_2] at h
      refine lv_iconst (v := (-1)) hx hb dX12_faultOf_53 (by decide) ?_
      refine lv_aload_n hx hb dX12_faultOf_54 rfl (lv_at hl 1 rfl) ?_
      refine gx_get S hK hw t_199 cl_13 14 (by decide) rfl mw_1428 rfl dX12_faultOf_55 ?_
      refine lv_isub hx hb dX12_faultOf_58 ?_
      obtain ⟨rfl, rfl, rfl⟩ := sm_inj h
      exact gx_ri (post := gq_p ((-1) - (σ 199 14)) σ τ) (v := (-1) - (σ 199 14)) S hr hlk hw rfl dX12_faultOf_59 ⟨rfl, rfl, rfl⟩
    · rw [if_neg c_2] at h
      refine lv_iconst (v := 0) hx hb dX12_faultOf_49 (by decide) ?_
      refine lv_goto (tgt := 59) hx hb dX12_faultOf_50 (by decide) ?_
      obtain ⟨rfl, rfl, rfl⟩ := sm_inj h
      exact gx_ri (post := gq_p 0 σ τ) (v := 0) S hr hlk hw rfl dX12_faultOf_59 ⟨rfl, rfl, rfl⟩
  · rw [if_neg c_1] at h
    refine lv_iload hx hb dX12_faultOf_27 (lv_at hl 0 rfl) ?_
    refine lv_if_ne (tgt := 40) hx hb dX12_faultOf_29 (by decide) (fun c_3 => ?_) (fun c_3 => ?_)
    · rw [if_neg c_3] at h
      refine lv_iconst (v := (-1)) hx hb dX12_faultOf_40 (by decide) ?_
      refine lv_iload_n hx hb dX12_faultOf_41 rfl (lv_at hl 3 rfl) ?_
      refine lv_isub hx hb dX12_faultOf_42 ?_
      obtain ⟨rfl, rfl, rfl⟩ := sm_inj h
      exact gx_ri (post := gq_p ((-1) - x2) σ τ) (v := (-1) - x2) S hr hlk hw rfl dX12_faultOf_43 ⟨rfl, rfl, rfl⟩
    · rw [if_pos c_3] at h
      refine lv_aload_n hx hb dX12_faultOf_32 rfl (lv_at hl 1 rfl) ?_
      refine gx_get S hK hw t_199 cl_13 14 (by decide) rfl mw_1428 rfl dX12_faultOf_33 ?_
      refine lv_iload_n hx hb dX12_faultOf_36 rfl (lv_at hl 3 rfl) ?_
      refine lv_icmp_lt (tgt := 44) hx hb dX12_faultOf_37 (by decide) (fun c_4 => ?_) (fun c_4 => ?_)
      · rw [if_pos c_4] at h
        refine lv_iload hx hb dX12_faultOf_44 (lv_at hl 0 rfl) ?_
        refine lv_if_eq (tgt := 53) hx hb dX12_faultOf_46 (by decide) (fun c_5 => ?_) (fun c_5 => ?_)
        · rw [if_pos c_5] at h
          refine lv_iconst (v := (-1)) hx hb dX12_faultOf_53 (by decide) ?_
          refine lv_aload_n hx hb dX12_faultOf_54 rfl (lv_at hl 1 rfl) ?_
          refine gx_get S hK hw t_199 cl_13 14 (by decide) rfl mw_1428 rfl dX12_faultOf_55 ?_
          refine lv_isub hx hb dX12_faultOf_58 ?_
          obtain ⟨rfl, rfl, rfl⟩ := sm_inj h
          exact gx_ri (post := gq_p ((-1) - (σ 199 14)) σ τ) (v := (-1) - (σ 199 14)) S hr hlk hw rfl dX12_faultOf_59 ⟨rfl, rfl, rfl⟩
        · rw [if_neg c_5] at h
          refine lv_iconst (v := 0) hx hb dX12_faultOf_49 (by decide) ?_
          refine lv_goto (tgt := 59) hx hb dX12_faultOf_50 (by decide) ?_
          obtain ⟨rfl, rfl, rfl⟩ := sm_inj h
          exact gx_ri (post := gq_p 0 σ τ) (v := 0) S hr hlk hw rfl dX12_faultOf_59 ⟨rfl, rfl, rfl⟩
      · rw [if_neg c_4] at h
        refine lv_iconst (v := (-1)) hx hb dX12_faultOf_40 (by decide) ?_
        refine lv_iload_n hx hb dX12_faultOf_41 rfl (lv_at hl 3 rfl) ?_
        refine lv_isub hx hb dX12_faultOf_42 ?_
        obtain ⟨rfl, rfl, rfl⟩ := sm_inj h
        exact gx_ri (post := gq_p ((-1) - x2) σ τ) (v := (-1) - x2) S hr hlk hw rfl dX12_faultOf_43 ⟨rfl, rfl, rfl⟩
set_option maxHeartbeats 4000000 in
set_option maxRecDepth 100000 in
theorem b_X12_faultOf_0 (l : Launch) (S : CallFix P9 m9 C9 cX12_faultOf 5 s av.toArray gx_G RX12) (hr : meth.sig.returnType = (some .int)) (hlk : meth.locks = false) (hK : gx_K E s) (N : Nat) (σ : gI) (τ : gJ) (x1 : Int32) (x2 : Int32) (x3 : Int32) {r : Int32} {σ1 : gI} {τ1 : gJ} (h : B_X12_faultOf_0 N σ τ x1 x2 x3 = some (r, σ1, τ1)) {H : Heap} {locs : List Loc} {ls : Array Slot} (hw : gx_W gx_tb gx_tb.length E s σ τ H locs) (hl : lv_has ls 5 [(0, .ref (E.2.2 + 199)), (1, .int x1), (2, .int x2), (3, .int x3)]) : W P9 l e9 (gx_rm 0) s m9 av.toArray below meth C9 H locs 0 0 (gq_Qi below av s E r σ1 τ1) (F0 m9 0 ls []) := by
  have hx := S.1
  have hb := S.2.1
  unfold B_X12_faultOf_0 at h
  refine lv_iload_n hx hb dX12_faultOf_0 rfl (lv_at hl 3 rfl) ?_
  refine lv_if_eq (tgt := 19) hx hb dX12_faultOf_1 (by decide) (fun c_1 => ?_) (fun c_1 => ?_)
  · rw [if_pos c_1] at h
    refine lv_iconst (v := 0) hx hb dX12_faultOf_19 (by decide) ?_
    exact b_X12_faultOf_20 l S hr hlk hK N σ τ x1 x2 0 h hw (lv_sub hl [0, 1, 2] rfl)
  · rw [if_neg c_1] at h
    refine lv_aload_n hx hb dX12_faultOf_4 rfl (lv_at hl 0 rfl) ?_
    refine gx_get S hK hw t_199 cl_13 14 (by decide) rfl mw_1428 rfl dX12_faultOf_5 ?_
    refine lv_aload_n hx hb dX12_faultOf_8 rfl (lv_at hl 0 rfl) ?_
    refine gx_get S hK hw t_199 cl_13 15 (by decide) rfl mw_1429 rfl dX12_faultOf_9 ?_
    refine lv_icmp_ne (tgt := 19) hx hb dX12_faultOf_12 (by decide) (fun c_2 => ?_) (fun c_2 => ?_)
    · rw [if_neg c_2] at h
      refine lv_iconst (v := 0) hx hb dX12_faultOf_19 (by decide) ?_
      exact b_X12_faultOf_20 l S hr hlk hK N σ τ x1 x2 0 h hw (lv_sub hl [0, 1, 2] rfl)
    · rw [if_pos c_2] at h
      refine lv_iconst (v := 1) hx hb dX12_faultOf_15 (by decide) ?_
      refine lv_goto (tgt := 20) hx hb dX12_faultOf_16 (by decide) ?_
      exact b_X12_faultOf_20 l S hr hlk hK N σ τ x1 x2 1 h hw (lv_sub hl [0, 1, 2] rfl)
set_option maxHeartbeats 4000000 in
set_option maxRecDepth 100000 in
theorem c_X12_faultOf (l : Launch) {E : gE} (N : Nat) (σ : gI) (τ : gJ) (x1 : Int32) (x2 : Int32) (x3 : Int32) {r : Int32} {σ1 : gI} {τ1 : gJ} (h : B_X12_faultOf_0 N σ τ x1 x2 x3 = some (r, σ1, τ1)) : gx_Mi l yX12_faultOf cX12_faultOf 5 (some .int) 0 gx_tb E σ τ [.ref (E.2.2 + 199), .int x1, .int x2, .int x3] (gq_p r σ1 τ1) := by
  refine gx_bi (by decide +kernel) (Nat.le_of_ble_eq_true rfl) ?_
  intro P9 e9 s m9 below meth C9 S hr hlk hK hw ls hl
  have hl : lv_has ls 5 [(0, .ref (E.2.2 + 199)), (1, .int x1), (2, .int x2), (3, .int x3)] := hl
  exact b_X12_faultOf_0 l S hr hlk hK N σ τ x1 x2 x3 h hw hl
/-! X12_putsBy -/
def C_X12_putsBy_2 (N : Nat) (rec_2 : gI → gJ → Int32 → Option (Unit × gI × gJ)) (σ : gI) (τ : gJ) (x1 : Int32) : Option (Unit × gI × gJ) := if 45 ≤ x1 then (some ((), σ, τ)) else (ck x1 45 fun j_2 => ck ((45 * (σ 199 36)) + x1) 720 fun j_3 => nm (up2 σ 219 j_3 (σ 206 j_2)) fun σ_4 => nm (x1 + 1) fun v_5 => rec_2 σ_4 τ v_5)
def H_X12_putsBy_2 (N : Nat) : Nat → gI → gJ → Int32 → Option (Unit × gI × gJ) := itn (fun rec_2 => C_X12_putsBy_2 N rec_2) (fun _ _ _ => none)
def B_X12_putsBy_0 (N : Nat) (σ : gI) (τ : gJ) : Option (Unit × gI × gJ) := H_X12_putsBy_2 N N σ τ 0
set_option maxHeartbeats 4000000 in
set_option maxRecDepth 100000 in
theorem k_X12_putsBy_2 (l : Launch) (S : CallFix P9 m9 C9 cX12_putsBy 2 s av.toArray gx_G RX12) (hr : meth.sig.returnType = none) (hlk : meth.locks = false) (hK : gx_K E s) (N : Nat) (rec_2 : gI → gJ → Int32 → Option (Unit × gI × gJ)) (hrec_2 : ∀ (σ : gI) (τ : gJ) (x1 : Int32) (r : Unit) (σ1 : gI) (τ1 : gJ) (H : Heap) (locs : List Loc) (ls : Array Slot), rec_2 σ τ x1 = some (r, σ1, τ1) → gx_W gx_tb gx_tb.length E s σ τ H locs → lv_has ls 2 [(0, .ref (E.2.2 + 199)), (1, .int x1)] → W P9 l e9 (gx_rm 0) s m9 av.toArray below meth C9 H locs 0 0 (gq_Qv below av s E σ1 τ1) (F0 m9 2 ls [])) (σ : gI) (τ : gJ) (x1 : Int32) {r : Unit} {σ1 : gI} {τ1 : gJ} (h : C_X12_putsBy_2 N rec_2 σ τ x1 = some (r, σ1, τ1)) {H : Heap} {locs : List Loc} {ls : Array Slot} (hw : gx_W gx_tb gx_tb.length E s σ τ H locs) (hl : lv_has ls 2 [(0, .ref (E.2.2 + 199)), (1, .int x1)]) : W P9 l e9 (gx_rm 0) s m9 av.toArray below meth C9 H locs 0 0 (gq_Qv below av s E σ1 τ1) (F0 m9 2 ls []) := by
  have hx := S.1
  have hb := S.2.1
  unfold C_X12_putsBy_2 at h
  refine lv_iload_n hx hb dX12_putsBy_2 rfl (lv_at hl 1 rfl) ?_
  refine lv_bipush (v := 45) hx hb dX12_putsBy_3 (by decide) ?_
  refine lv_icmp_ge (tgt := 34) hx hb dX12_putsBy_5 (by decide) (fun c_1 => ?_) (fun c_1 => ?_)
  · rw [if_pos c_1] at h
    obtain ⟨-, rfl, rfl⟩ := sm_inj h
    exact gx_rv (post := gq_v σ τ) S hr hlk hw dX12_putsBy_34 ⟨rfl, rfl⟩
  · rw [if_neg c_1] at h
    refine lv_aload_n hx hb dX12_putsBy_8 rfl (lv_at hl 0 rfl) ?_
    refine gx_getr (j := 219) S hK hw t_199 cl_13 37 (by decide) rfl mw_1451 rfl dX12_putsBy_9 ?_
    refine lv_bipush (v := 45) hx hb dX12_putsBy_12 (by decide) ?_
    refine lv_aload_n hx hb dX12_putsBy_14 rfl (lv_at hl 0 rfl) ?_
    refine gx_get S hK hw t_199 cl_13 36 (by decide) rfl mw_1450 rfl dX12_putsBy_15 ?_
    refine lv_imul hx hb dX12_putsBy_18 ?_
    refine lv_iload_n hx hb dX12_putsBy_19 rfl (lv_at hl 1 rfl) ?_
    refine lv_iadd hx hb dX12_putsBy_20 ?_
    refine lv_aload_n hx hb dX12_putsBy_21 rfl (lv_at hl 0 rfl) ?_
    refine gx_getr (j := 206) S hK hw t_199 cl_13 10 (by decide) rfl mw_1424 rfl dX12_putsBy_22 ?_
    refine lv_iload_n hx hb dX12_putsBy_25 rfl (lv_at hl 1 rfl) ?_
    obtain ⟨j_2, hj_2, hi_2, h⟩ := ck_some h
    refine gx_iald S hK hw t_206 j_2 hj_2 hi_2 dX12_putsBy_26 ?_
    obtain ⟨j_3, hj_3, hi_3, h⟩ := ck_some h
    refine gx_iast S hK gx_ok hw t_219 j_3 hj_3 hi_3 dX12_putsBy_27 (fun H locs hw => ?_)
    obtain ⟨σ_4, e_4, h⟩ := nm_some h
    rw [← e_4] at hw
    refine lv_iinc (v := x1 + 1) (lv' := [(1, .int (x1 + 1)), (0, .ref (E.2.2 + 199))]) hx hb dX12_putsBy_28 hl (k := 1) rfl rfl (by decide) rfl (fun ls hl => ?_)
    obtain ⟨v_5, e_5, h⟩ := nm_some h
    have hl : lv_has ls 2 [(1, .int v_5), (0, .ref (E.2.2 + 199))] := by rw [e_5]; exact hl
    refine lv_goto (tgt := 2) hx hb dX12_putsBy_31 (by decide) ?_
    exact hrec_2 σ_4 τ v_5 _ _ _ _ _ _ h hw (lv_sub hl [1, 0] rfl)
set_option maxHeartbeats 4000000 in
set_option maxRecDepth 100000 in
theorem h_X12_putsBy_2 (l : Launch) (S : CallFix P9 m9 C9 cX12_putsBy 2 s av.toArray gx_G RX12) (hr : meth.sig.returnType = none) (hlk : meth.locks = false) (hK : gx_K E s) (N : Nat) : ∀ (n : Nat) (σ : gI) (τ : gJ) (x1 : Int32) (r : Unit) (σ1 : gI) (τ1 : gJ), H_X12_putsBy_2 N n σ τ x1 = some (r, σ1, τ1) → ∀ (H : Heap) (locs : List Loc) (ls : Array Slot), gx_W gx_tb gx_tb.length E s σ τ H locs → lv_has ls 2 [(0, .ref (E.2.2 + 199)), (1, .int x1)] → W P9 l e9 (gx_rm 0) s m9 av.toArray below meth C9 H locs 0 0 (gq_Qv below av s E σ1 τ1) (F0 m9 2 ls []) := by
  intro n
  induction n with
  | zero => intro σ τ x1 r σ1 τ1 h; cases h
  | succ n ih =>
    intro σ τ x1 r σ1 τ1 h H locs ls hw hl
    exact k_X12_putsBy_2 l S hr hlk hK N (H_X12_putsBy_2 N n) (fun σ τ x1 r σ1 τ1 H locs ls h hw hl => ih σ τ x1 r σ1 τ1 h H locs ls hw hl) σ τ x1 h hw hl
set_option maxHeartbeats 4000000 in
set_option maxRecDepth 100000 in
theorem b_X12_putsBy_0 (l : Launch) (S : CallFix P9 m9 C9 cX12_putsBy 2 s av.toArray gx_G RX12) (hr : meth.sig.returnType = none) (hlk : meth.locks = false) (hK : gx_K E s) (N : Nat) (σ : gI) (τ : gJ) {r : Unit} {σ1 : gI} {τ1 : gJ} (h : B_X12_putsBy_0 N σ τ = some (r, σ1, τ1)) {H : Heap} {locs : List Loc} {ls : Array Slot} (hw : gx_W gx_tb gx_tb.length E s σ τ H locs) (hl : lv_has ls 2 [(0, .ref (E.2.2 + 199))]) : W P9 l e9 (gx_rm 0) s m9 av.toArray below meth C9 H locs 0 0 (gq_Qv below av s E σ1 τ1) (F0 m9 0 ls []) := by
  have hx := S.1
  have hb := S.2.1
  unfold B_X12_putsBy_0 at h
  refine lv_iconst (v := 0) hx hb dX12_putsBy_0 (by decide) ?_
  refine lv_istore_n (lv' := [(1, .int 0), (0, .ref (E.2.2 + 199))]) hx hb dX12_putsBy_1 rfl hl (by decide) rfl (fun ls hl => ?_)
  exact h_X12_putsBy_2 l S hr hlk hK N N σ τ 0 _ _ _ h _ _ _ hw (lv_sub hl [1, 0] rfl)
set_option maxHeartbeats 4000000 in
set_option maxRecDepth 100000 in
theorem c_X12_putsBy (l : Launch) {E : gE} (N : Nat) (σ : gI) (τ : gJ) {r : Unit} {σ1 : gI} {τ1 : gJ} (h : B_X12_putsBy_0 N σ τ = some (r, σ1, τ1)) : gx_Mv l yX12_putsBy cX12_putsBy 2 none 0 gx_tb E σ τ [.ref (E.2.2 + 199)] (gq_v σ1 τ1) := by
  refine gx_bv (by decide +kernel) (Nat.le_of_ble_eq_true rfl) ?_
  intro P9 e9 s m9 below meth C9 S hr hlk hK hw ls hl
  have hl : lv_has ls 2 [(0, .ref (E.2.2 + 199))] := hl
  exact b_X12_putsBy_0 l S hr hlk hK N σ τ h hw hl
/-! X12_isFork -/
def B_X12_isFork_0 (N : Nat) (σ : gI) (τ : gJ) (x1 : Int32) : Option (Int32 × gI × gJ) := bd (B_X12_isPlace_0 N σ τ x1) fun r_1 σ_1 τ_1 => if r_1 = 0 then (some (0, σ_1, τ_1)) else (ck x1 12 fun j_3 => if σ_1 201 j_3 = 1 then (some (1, σ_1, τ_1)) else (some (0, σ_1, τ_1)))
set_option maxHeartbeats 4000000 in
set_option maxRecDepth 100000 in
theorem b_X12_isFork_0 (l : Launch) (S : CallFix P9 m9 C9 cX12_isFork 2 s av.toArray gx_G RX12) (hr : meth.sig.returnType = (some .boolean)) (hlk : meth.locks = false) (hK : gx_K E s) (N : Nat) (σ : gI) (τ : gJ) (x1 : Int32) {r : Int32} {σ1 : gI} {τ1 : gJ} (h : B_X12_isFork_0 N σ τ x1 = some (r, σ1, τ1)) {H : Heap} {locs : List Loc} {ls : Array Slot} (hw : gx_W gx_tb gx_tb.length E s σ τ H locs) (hl : lv_has ls 2 [(0, .ref (E.2.2 + 199)), (1, .int x1)]) : W P9 l e9 (gx_rm 2) s m9 av.toArray below meth C9 H locs 0 0 (gq_Qi below av s E r σ1 τ1) (F0 m9 0 ls []) := by
  have hx := S.1
  have hb := S.2.1
  unfold B_X12_isFork_0 at h
  refine lv_aload_n hx hb dX12_isFork_0 rfl (lv_at hl 0 rfl) ?_
  refine lv_iload_n hx hb dX12_isFork_1 rfl (lv_at hl 1 rfl) ?_
  obtain ⟨r_1, σ_1, τ_1, q_1, h⟩ := bd_some h
  refine gx_cVi (As := [.int x1]) (rest := []) S hK gx_ok hw (c_X12_isPlace l (E := E) N σ τ x1 q_1) cw_X12_133 t_199 cl_13 ⟨Nat.le_of_ble_eq_true rfl, Nat.le_of_ble_eq_true rfl⟩ rfl hl.1 rfl (Nat.le_of_ble_eq_true rfl) ⟨Nat.le_of_ble_eq_true rfl, Nat.le_of_ble_eq_true rfl⟩ dX12_isFork_2 (fun r9 σ9 τ9 H locs hp hw => ?_)
  obtain ⟨rfl, rfl, rfl⟩ := hp
  refine lv_if_eq (tgt := 22) hx hb dX12_isFork_5 (by decide) (fun c_2 => ?_) (fun c_2 => ?_)
  · rw [if_pos c_2] at h
    refine lv_iconst (v := 0) hx hb dX12_isFork_22 (by decide) ?_
    obtain ⟨rfl, rfl, rfl⟩ := sm_inj h
    exact gx_ri (post := gq_p 0 σ_1 τ_1) (v := 0) S hr hlk hw rfl dX12_isFork_23 ⟨rfl, rfl, rfl⟩
  · rw [if_neg c_2] at h
    refine lv_aload_n hx hb dX12_isFork_8 rfl (lv_at hl 0 rfl) ?_
    refine gx_getr (j := 201) S hK hw t_199 cl_13 5 (by decide) rfl mw_1419 rfl dX12_isFork_9 ?_
    refine lv_iload_n hx hb dX12_isFork_12 rfl (lv_at hl 1 rfl) ?_
    obtain ⟨j_3, hj_3, hi_3, h⟩ := ck_some h
    refine gx_iald S hK hw t_201 j_3 hj_3 hi_3 dX12_isFork_13 ?_
    refine lv_iconst (v := 1) hx hb dX12_isFork_14 (by decide) ?_
    refine lv_icmp_ne (tgt := 22) hx hb dX12_isFork_15 (by decide) (fun c_4 => ?_) (fun c_4 => ?_)
    · rw [if_neg c_4] at h
      refine lv_iconst (v := 0) hx hb dX12_isFork_22 (by decide) ?_
      obtain ⟨rfl, rfl, rfl⟩ := sm_inj h
      exact gx_ri (post := gq_p 0 σ_1 τ_1) (v := 0) S hr hlk hw rfl dX12_isFork_23 ⟨rfl, rfl, rfl⟩
    · rw [if_pos c_4] at h
      refine lv_iconst (v := 1) hx hb dX12_isFork_18 (by decide) ?_
      refine lv_goto (tgt := 23) hx hb dX12_isFork_19 (by decide) ?_
      obtain ⟨rfl, rfl, rfl⟩ := sm_inj h
      exact gx_ri (post := gq_p 1 σ_1 τ_1) (v := 1) S hr hlk hw rfl dX12_isFork_23 ⟨rfl, rfl, rfl⟩
set_option maxHeartbeats 4000000 in
set_option maxRecDepth 100000 in
theorem c_X12_isFork (l : Launch) {E : gE} (N : Nat) (σ : gI) (τ : gJ) (x1 : Int32) {r : Int32} {σ1 : gI} {τ1 : gJ} (h : B_X12_isFork_0 N σ τ x1 = some (r, σ1, τ1)) : gx_Mi l yX12_isFork cX12_isFork 2 (some .boolean) 2 gx_tb E σ τ [.ref (E.2.2 + 199), .int x1] (gq_p r σ1 τ1) := by
  refine gx_bi (by decide +kernel) (Nat.le_of_ble_eq_true rfl) ?_
  intro P9 e9 s m9 below meth C9 S hr hlk hK hw ls hl
  have hl : lv_has ls 2 [(0, .ref (E.2.2 + 199)), (1, .int x1)] := hl
  exact b_X12_isFork_0 l S hr hlk hK N σ τ x1 h hw hl
/-! X12_gives -/
def B_X12_gives_0 (N : Nat) (σ : gI) (τ : gJ) (x1 : Int32) (x2 : Int32) : Option (Int32 × gI × gJ) := bd (B_X12_isThing_0 N σ τ x1) fun r_1 σ_1 τ_1 => if r_1 = 0 then (some ((-1), σ_1, τ_1)) else (ck ((7 * x1) + 4) 45 fun j_3 => if σ_1 206 j_3 = 0 then (bd (B_X12_in_0 N σ_1 τ_1 x2.toInt64 1 9) fun r_5 σ_5 τ_5 => if r_5 = 0 then (some ((-1), σ_5, τ_5)) else (ck ((7 * x1) + 2) 45 fun j_7 => nm (up2 σ_5 206 j_7 (imin 9 ((σ_5 206 j_7) + x2))) fun σ_8 => some (σ_8 206 j_7, σ_8, τ_5))) else (some ((-1), σ_1, τ_1)))
set_option maxHeartbeats 4000000 in
set_option maxRecDepth 100000 in
theorem b_X12_gives_0 (l : Launch) (S : CallFix P9 m9 C9 cX12_gives 3 s av.toArray gx_G RX12) (hr : meth.sig.returnType = (some .int)) (hlk : meth.locks = false) (hK : gx_K E s) (N : Nat) (σ : gI) (τ : gJ) (x1 : Int32) (x2 : Int32) {r : Int32} {σ1 : gI} {τ1 : gJ} (h : B_X12_gives_0 N σ τ x1 x2 = some (r, σ1, τ1)) {H : Heap} {locs : List Loc} {ls : Array Slot} (hw : gx_W gx_tb gx_tb.length E s σ τ H locs) (hl : lv_has ls 3 [(0, .ref (E.2.2 + 199)), (1, .int x1), (2, .int x2)]) : W P9 l e9 (gx_rm 2) s m9 av.toArray below meth C9 H locs 0 0 (gq_Qi below av s E r σ1 τ1) (F0 m9 0 ls []) := by
  have hx := S.1
  have hb := S.2.1
  unfold B_X12_gives_0 at h
  refine lv_aload_n hx hb dX12_gives_0 rfl (lv_at hl 0 rfl) ?_
  refine lv_iload_n hx hb dX12_gives_1 rfl (lv_at hl 1 rfl) ?_
  obtain ⟨r_1, σ_1, τ_1, q_1, h⟩ := bd_some h
  refine gx_cVi (As := [.int x1]) (rest := []) S hK gx_ok hw (c_X12_isThing l (E := E) N σ τ x1 q_1) cw_X12_309 t_199 cl_13 ⟨Nat.le_of_ble_eq_true rfl, Nat.le_of_ble_eq_true rfl⟩ rfl hl.1 rfl (Nat.le_of_ble_eq_true rfl) ⟨Nat.le_of_ble_eq_true rfl, Nat.le_of_ble_eq_true rfl⟩ dX12_gives_2 (fun r9 σ9 τ9 H locs hp hw => ?_)
  obtain ⟨rfl, rfl, rfl⟩ := hp
  refine lv_if_eq (tgt := 34) hx hb dX12_gives_5 (by decide) (fun c_2 => ?_) (fun c_2 => ?_)
  · rw [if_pos c_2] at h
    refine lv_iconst (v := (-1)) hx hb dX12_gives_34 (by decide) ?_
    obtain ⟨rfl, rfl, rfl⟩ := sm_inj h
    exact gx_ri (post := gq_p (-1) σ_1 τ_1) (v := (-1)) S hr hlk hw rfl dX12_gives_35 ⟨rfl, rfl, rfl⟩
  · rw [if_neg c_2] at h
    refine lv_aload_n hx hb dX12_gives_8 rfl (lv_at hl 0 rfl) ?_
    refine gx_getr (j := 206) S hK hw t_199 cl_13 10 (by decide) rfl mw_1424 rfl dX12_gives_9 ?_
    refine lv_bipush (v := 7) hx hb dX12_gives_12 (by decide) ?_
    refine lv_iload_n hx hb dX12_gives_14 rfl (lv_at hl 1 rfl) ?_
    refine lv_imul hx hb dX12_gives_15 ?_
    refine lv_iconst (v := 4) hx hb dX12_gives_16 (by decide) ?_
    refine lv_iadd hx hb dX12_gives_17 ?_
    obtain ⟨j_3, hj_3, hi_3, h⟩ := ck_some h
    refine gx_iald S hK hw t_206 j_3 hj_3 hi_3 dX12_gives_18 ?_
    refine lv_if_ne (tgt := 34) hx hb dX12_gives_19 (by decide) (fun c_4 => ?_) (fun c_4 => ?_)
    · rw [if_neg c_4] at h
      refine lv_iconst (v := (-1)) hx hb dX12_gives_34 (by decide) ?_
      obtain ⟨rfl, rfl, rfl⟩ := sm_inj h
      exact gx_ri (post := gq_p (-1) σ_1 τ_1) (v := (-1)) S hr hlk hw rfl dX12_gives_35 ⟨rfl, rfl, rfl⟩
    · rw [if_pos c_4] at h
      refine lv_iload_n hx hb dX12_gives_22 rfl (lv_at hl 2 rfl) ?_
      refine lv_i2l (v := x2.toInt64) hx hb dX12_gives_23 rfl ?_
      refine lv_lconst (v := 1) hx hb dX12_gives_24 (by decide) ?_
      refine lv_ldc2 (v := 9) hx hb S.2.2.2.1 (S.2.2.2.2 _ mw_1854) dX12_gives_25 ?_
      obtain ⟨r_5, σ_5, τ_5, q_5, h⟩ := bd_some h
      refine gx_cSi (As := [.long x2.toInt64, .long 1, .long 9]) (rest := []) S hK gx_ok hw (c_X12_in l (E := E) N σ_1 τ_1 x2.toInt64 1 9 q_5) cw_X12_129 ⟨Nat.le_of_ble_eq_true rfl, Nat.le_of_ble_eq_true rfl⟩ rfl hl.1 rfl (Nat.le_of_ble_eq_true rfl) ⟨Nat.le_of_ble_eq_true rfl, Nat.le_of_ble_eq_true rfl⟩ dX12_gives_28 (fun r9 σ9 τ9 H locs hp hw => ?_)
      obtain ⟨rfl, rfl, rfl⟩ := hp
      refine lv_if_ne (tgt := 36) hx hb dX12_gives_31 (by decide) (fun c_6 => ?_) (fun c_6 => ?_)
      · rw [if_neg c_6] at h
        refine lv_aload_n hx hb dX12_gives_36 rfl (lv_at hl 0 rfl) ?_
        refine gx_getr (j := 206) S hK hw t_199 cl_13 10 (by decide) rfl mw_1424 rfl dX12_gives_37 ?_
        refine lv_bipush (v := 7) hx hb dX12_gives_40 (by decide) ?_
        refine lv_iload_n hx hb dX12_gives_42 rfl (lv_at hl 1 rfl) ?_
        refine lv_imul hx hb dX12_gives_43 ?_
        refine lv_iconst (v := 2) hx hb dX12_gives_44 (by decide) ?_
        refine lv_iadd hx hb dX12_gives_45 ?_
        refine lv_bipush (v := 9) hx hb dX12_gives_46 (by decide) ?_
        refine lv_aload_n hx hb dX12_gives_48 rfl (lv_at hl 0 rfl) ?_
        refine gx_getr (j := 206) S hK hw t_199 cl_13 10 (by decide) rfl mw_1424 rfl dX12_gives_49 ?_
        refine lv_bipush (v := 7) hx hb dX12_gives_52 (by decide) ?_
        refine lv_iload_n hx hb dX12_gives_54 rfl (lv_at hl 1 rfl) ?_
        refine lv_imul hx hb dX12_gives_55 ?_
        refine lv_iconst (v := 2) hx hb dX12_gives_56 (by decide) ?_
        refine lv_iadd hx hb dX12_gives_57 ?_
        obtain ⟨j_7, hj_7, hi_7, h⟩ := ck_some h
        refine gx_iald S hK hw t_206 j_7 hj_7 hi_7 dX12_gives_58 ?_
        refine lv_iload_n hx hb dX12_gives_59 rfl (lv_at hl 2 rfl) ?_
        refine lv_iadd hx hb dX12_gives_60 ?_
        refine gx_min (w := imin 9 ((σ_5 206 j_7) + x2)) S hl.1 mw_1614 mw_529 mw_102 mw_530 ⟨Nat.le_of_ble_eq_true rfl, Nat.le_of_ble_eq_true rfl⟩ ⟨Nat.le_of_ble_eq_true rfl, Nat.le_of_ble_eq_true rfl⟩ dX12_gives_61 rfl ?_
        refine gx_iast S hK gx_ok hw t_206 j_7 hj_7 hi_7 dX12_gives_64 (fun H locs hw => ?_)
        obtain ⟨σ_8, e_8, h⟩ := nm_some h
        rw [← e_8] at hw
        refine lv_aload_n hx hb dX12_gives_65 rfl (lv_at hl 0 rfl) ?_
        refine gx_getr (j := 206) S hK hw t_199 cl_13 10 (by decide) rfl mw_1424 rfl dX12_gives_66 ?_
        refine lv_bipush (v := 7) hx hb dX12_gives_69 (by decide) ?_
        refine lv_iload_n hx hb dX12_gives_71 rfl (lv_at hl 1 rfl) ?_
        refine lv_imul hx hb dX12_gives_72 ?_
        refine lv_iconst (v := 2) hx hb dX12_gives_73 (by decide) ?_
        refine lv_iadd hx hb dX12_gives_74 ?_
        refine gx_iald S hK hw t_206 j_7 hj_7 hi_7 dX12_gives_75 ?_
        obtain ⟨rfl, rfl, rfl⟩ := sm_inj h
        exact gx_ri (post := gq_p (σ_8 206 j_7) σ_8 τ_5) (v := σ_8 206 j_7) S hr hlk hw rfl dX12_gives_76 ⟨rfl, rfl, rfl⟩
      · rw [if_pos c_6] at h
        refine lv_iconst (v := (-1)) hx hb dX12_gives_34 (by decide) ?_
        obtain ⟨rfl, rfl, rfl⟩ := sm_inj h
        exact gx_ri (post := gq_p (-1) σ_5 τ_5) (v := (-1)) S hr hlk hw rfl dX12_gives_35 ⟨rfl, rfl, rfl⟩
set_option maxHeartbeats 4000000 in
set_option maxRecDepth 100000 in
theorem c_X12_gives (l : Launch) {E : gE} (N : Nat) (σ : gI) (τ : gJ) (x1 : Int32) (x2 : Int32) {r : Int32} {σ1 : gI} {τ1 : gJ} (h : B_X12_gives_0 N σ τ x1 x2 = some (r, σ1, τ1)) : gx_Mi l yX12_gives cX12_gives 3 (some .int) 2 gx_tb E σ τ [.ref (E.2.2 + 199), .int x1, .int x2] (gq_p r σ1 τ1) := by
  refine gx_bi (by decide +kernel) (Nat.le_of_ble_eq_true rfl) ?_
  intro P9 e9 s m9 below meth C9 S hr hlk hK hw ls hl
  have hl : lv_has ls 3 [(0, .ref (E.2.2 + 199)), (1, .int x1), (2, .int x2)] := hl
  exact b_X12_gives_0 l S hr hlk hK N σ τ x1 x2 h hw hl
/-! X12_does -/
def C_X12_does_104 (N : Nat) (rec_104 : gI → gJ → Int32 → Int32 → Int32 → Option (Int32 × gI × gJ)) (σ : gI) (τ : gJ) (x2 : Int32) (x3 : Int32) (x4 : Int32) : Option (Int32 × gI × gJ) := if x2 ≤ x4 then (bd (B_X12_thoseHow_0 N 206 σ τ 1) fun r_2 σ_2 τ_2 => bd (B_J6_bitCount_0f7a4_0 N σ_2 τ_2 (r_2 &&& (x3 ^^^ (-1)))) fun r_3 σ_3 τ_3 => nm (up2 σ_3 199 43 ((σ 199 43) + r_3)) fun σ_4 => some (1, σ_4, τ_3)) else (bd (B_X12_minuteGoes_0 N 206 σ τ) fun _ σ_5 τ_5 => nm (x4 + 1) fun v_6 => rec_104 σ_5 τ_5 x2 x3 v_6)
def H_X12_does_104 (N : Nat) : Nat → gI → gJ → Int32 → Int32 → Int32 → Option (Int32 × gI × gJ) := itn (fun rec_104 => C_X12_does_104 N rec_104) (fun _ _ _ _ _ => none)
def B_X12_does_0 (N : Nat) (σ : gI) (τ : gJ) (x1 : Int32) : Option (Int32 × gI × gJ) := ck x1 60 fun j_1 => nm (σ 221 j_1) fun v_2 => if (σ 220 j_1) = 0 then (bd (B_X12_comesNow_0 N σ τ v_2 (σ 222 j_1) (σ 223 j_1) 0) fun r_4 σ_4 τ_4 => if r_4 < 0 then (some (0, σ_4, τ_4)) else (some (1, σ_4, τ_4))) else if (σ 220 j_1) = 1 then (bd (B_X12_isFork_0 N σ τ v_2) fun r_7 σ_7 τ_7 => if r_7 = 0 then (some (0, σ_7, τ_7)) else (nm (up2 σ_7 206 42 ((σ_7 206 42) ^^^ (1 <<< (v_2 &&& 31)))) fun σ_9 => some (1, σ_9, τ_7))) else if (σ 220 j_1) = 2 then (bd (B_X12_thoseHow_0 N 206 σ τ 1) fun r_11 σ_11 τ_11 => H_X12_does_104 N N σ_11 τ_11 v_2 r_11 0) else (bd (B_X12_gives_0 N σ τ v_2 (σ 222 j_1)) fun r_12 σ_12 τ_12 => if r_12 < 0 then (some (0, σ_12, τ_12)) else (some (1, σ_12, τ_12)))
set_option maxHeartbeats 4000000 in
set_option maxRecDepth 100000 in
theorem k_X12_does_104 (l : Launch) (S : CallFix P9 m9 C9 cX12_does 5 s av.toArray gx_G RX12) (hr : meth.sig.returnType = (some .boolean)) (hlk : meth.locks = false) (hK : gx_K E s) (N : Nat) (rec_104 : gI → gJ → Int32 → Int32 → Int32 → Option (Int32 × gI × gJ)) (hrec_104 : ∀ (σ : gI) (τ : gJ) (x2 : Int32) (x3 : Int32) (x4 : Int32) (r : Int32) (σ1 : gI) (τ1 : gJ) (H : Heap) (locs : List Loc) (ls : Array Slot), rec_104 σ τ x2 x3 x4 = some (r, σ1, τ1) → gx_W gx_tb gx_tb.length E s σ τ H locs → lv_has ls 5 [(0, .ref (E.2.2 + 199)), (2, .int x2), (3, .int x3), (4, .int x4)] → W P9 l e9 (gx_rm 6) s m9 av.toArray below meth C9 H locs 0 0 (gq_Qi below av s E r σ1 τ1) (F0 m9 104 ls [])) (σ : gI) (τ : gJ) (x2 : Int32) (x3 : Int32) (x4 : Int32) {r : Int32} {σ1 : gI} {τ1 : gJ} (h : C_X12_does_104 N rec_104 σ τ x2 x3 x4 = some (r, σ1, τ1)) {H : Heap} {locs : List Loc} {ls : Array Slot} (hw : gx_W gx_tb gx_tb.length E s σ τ H locs) (hl : lv_has ls 5 [(0, .ref (E.2.2 + 199)), (2, .int x2), (3, .int x3), (4, .int x4)]) : W P9 l e9 (gx_rm 6) s m9 av.toArray below meth C9 H locs 0 0 (gq_Qi below av s E r σ1 τ1) (F0 m9 104 ls []) := by
  have hx := S.1
  have hb := S.2.1
  unfold C_X12_does_104 at h
  refine lv_iload hx hb dX12_does_104 (lv_at hl 3 rfl) ?_
  refine lv_iload_n hx hb dX12_does_106 rfl (lv_at hl 1 rfl) ?_
  refine lv_icmp_ge (tgt := 124) hx hb dX12_does_107 (by decide) (fun c_1 => ?_) (fun c_1 => ?_)
  · rw [if_pos c_1] at h
    refine lv_aload_n hx hb dX12_does_124 rfl (lv_at hl 0 rfl) ?_
    refine lv_dup hx hb dX12_does_125 rfl ?_
    refine gx_get S hK hw t_199 cl_13 43 (by decide) rfl mw_1457 rfl dX12_does_126 ?_
    refine lv_aload_n hx hb dX12_does_129 rfl (lv_at hl 0 rfl) ?_
    refine gx_getr (j := 206) S hK hw t_199 cl_13 10 (by decide) rfl mw_1424 rfl dX12_does_130 ?_
    refine lv_iconst (v := 1) hx hb dX12_does_133 (by decide) ?_
    obtain ⟨r_2, σ_2, τ_2, q_2, h⟩ := bd_some h
    refine gx_cSi (As := [.ref (E.2.2 + 206), .int 1]) (rest := [.int (σ 199 43), .ref (E.2.2 + 199)]) S hK gx_ok hw (c_X12_thoseHow l (E := E) N 206 t_206 σ τ 1 q_2) cw_X12_346 ⟨Nat.le_of_ble_eq_true rfl, Nat.le_of_ble_eq_true rfl⟩ rfl hl.1 rfl (Nat.le_of_ble_eq_true rfl) ⟨Nat.le_of_ble_eq_true rfl, Nat.le_of_ble_eq_true rfl⟩ dX12_does_134 (fun r9 σ9 τ9 H locs hp hw => ?_)
    obtain ⟨rfl, rfl, rfl⟩ := hp
    refine lv_iload_n hx hb dX12_does_137 rfl (lv_at hl 2 rfl) ?_
    refine lv_iconst (v := (-1)) hx hb dX12_does_138 (by decide) ?_
    refine lv_ixor hx hb dX12_does_139 ?_
    refine lv_iand hx hb dX12_does_140 ?_
    obtain ⟨r_3, σ_3, τ_3, q_3, h⟩ := bd_some h
    refine gx_cSi (As := [.int (r_2 &&& (x3 ^^^ (-1)))]) (rest := [.int (σ 199 43), .ref (E.2.2 + 199)]) S hK gx_ok hw (c_J6_bitCount_0f7a4 l (E := E) N σ_2 τ_2 (r_2 &&& (x3 ^^^ (-1))) q_3) cw_X12_353 ⟨Nat.le_of_ble_eq_true rfl, Nat.le_of_ble_eq_true rfl⟩ rfl hl.1 rfl (Nat.le_of_ble_eq_true rfl) ⟨Nat.le_of_ble_eq_true rfl, Nat.le_of_ble_eq_true rfl⟩ dX12_does_141 (fun r9 σ9 τ9 H locs hp hw => ?_)
    obtain ⟨rfl, rfl, rfl⟩ := hp
    refine lv_iadd hx hb dX12_does_144 ?_
    refine gx_put S hK gx_ok hw t_199 cl_13 43 (by decide) rfl mw_1457 rfl rfl (ty := .int) (v := (σ 199 43) + r_3) (by decide +kernel) rfl rfl dX12_does_145 (fun H locs hw => ?_)
    obtain ⟨σ_4, e_4, h⟩ := nm_some h
    rw [← e_4] at hw
    refine lv_iconst (v := 1) hx hb dX12_does_148 (by decide) ?_
    obtain ⟨rfl, rfl, rfl⟩ := sm_inj h
    exact gx_ri (post := gq_p 1 σ_4 τ_3) (v := 1) S hr hlk hw rfl dX12_does_149 ⟨rfl, rfl, rfl⟩
  · rw [if_neg c_1] at h
    refine lv_aload_n hx hb dX12_does_110 rfl (lv_at hl 0 rfl) ?_
    refine lv_aload_n hx hb dX12_does_111 rfl (lv_at hl 0 rfl) ?_
    refine gx_getr (j := 206) S hK hw t_199 cl_13 10 (by decide) rfl mw_1424 rfl dX12_does_112 ?_
    obtain ⟨u_5, σ_5, τ_5, q_5, h⟩ := bd_some h
    refine gx_cVv (As := [.ref (E.2.2 + 206)]) (rest := []) S hK gx_ok hw (c_X12_minuteGoes l (E := E) N 206 t_206 σ τ q_5) cw_X12_349 t_199 cl_13 ⟨Nat.le_of_ble_eq_true rfl, Nat.le_of_ble_eq_true rfl⟩ rfl hl.1 rfl (Nat.le_of_ble_eq_true rfl) ⟨Nat.le_of_ble_eq_true rfl, Nat.le_of_ble_eq_true rfl⟩ dX12_does_115 (fun σ9 τ9 H locs hp hw => ?_)
    obtain ⟨rfl, rfl⟩ := hp
    refine lv_iinc (v := x4 + 1) (lv' := [(4, .int (x4 + 1)), (0, .ref (E.2.2 + 199)), (2, .int x2), (3, .int x3)]) hx hb dX12_does_118 hl (k := 3) rfl rfl (by decide) rfl (fun ls hl => ?_)
    obtain ⟨v_6, e_6, h⟩ := nm_some h
    have hl : lv_has ls 5 [(4, .int v_6), (0, .ref (E.2.2 + 199)), (2, .int x2), (3, .int x3)] := by rw [e_6]; exact hl
    refine lv_goto (tgt := 104) hx hb dX12_does_121 (by decide) ?_
    exact hrec_104 σ_5 τ_5 x2 x3 v_6 _ _ _ _ _ _ h hw (lv_sub hl [1, 2, 3, 0] rfl)
set_option maxHeartbeats 4000000 in
set_option maxRecDepth 100000 in
theorem h_X12_does_104 (l : Launch) (S : CallFix P9 m9 C9 cX12_does 5 s av.toArray gx_G RX12) (hr : meth.sig.returnType = (some .boolean)) (hlk : meth.locks = false) (hK : gx_K E s) (N : Nat) : ∀ (n : Nat) (σ : gI) (τ : gJ) (x2 : Int32) (x3 : Int32) (x4 : Int32) (r : Int32) (σ1 : gI) (τ1 : gJ), H_X12_does_104 N n σ τ x2 x3 x4 = some (r, σ1, τ1) → ∀ (H : Heap) (locs : List Loc) (ls : Array Slot), gx_W gx_tb gx_tb.length E s σ τ H locs → lv_has ls 5 [(0, .ref (E.2.2 + 199)), (2, .int x2), (3, .int x3), (4, .int x4)] → W P9 l e9 (gx_rm 6) s m9 av.toArray below meth C9 H locs 0 0 (gq_Qi below av s E r σ1 τ1) (F0 m9 104 ls []) := by
  intro n
  induction n with
  | zero => intro σ τ x2 x3 x4 r σ1 τ1 h; cases h
  | succ n ih =>
    intro σ τ x2 x3 x4 r σ1 τ1 h H locs ls hw hl
    exact k_X12_does_104 l S hr hlk hK N (H_X12_does_104 N n) (fun σ τ x2 x3 x4 r σ1 τ1 H locs ls h hw hl => ih σ τ x2 x3 x4 r σ1 τ1 h H locs ls hw hl) σ τ x2 x3 x4 h hw hl
set_option maxHeartbeats 4000000 in
set_option maxRecDepth 100000 in
theorem b_X12_does_0 (l : Launch) (S : CallFix P9 m9 C9 cX12_does 5 s av.toArray gx_G RX12) (hr : meth.sig.returnType = (some .boolean)) (hlk : meth.locks = false) (hK : gx_K E s) (N : Nat) (σ : gI) (τ : gJ) (x1 : Int32) {r : Int32} {σ1 : gI} {τ1 : gJ} (h : B_X12_does_0 N σ τ x1 = some (r, σ1, τ1)) {H : Heap} {locs : List Loc} {ls : Array Slot} (hw : gx_W gx_tb gx_tb.length E s σ τ H locs) (hl : lv_has ls 5 [(0, .ref (E.2.2 + 199)), (1, .int x1)]) : W P9 l e9 (gx_rm 6) s m9 av.toArray below meth C9 H locs 0 0 (gq_Qi below av s E r σ1 τ1) (F0 m9 0 ls []) := by
  have hx := S.1
  have hb := S.2.1
  unfold B_X12_does_0 at h
  refine lv_aload_n hx hb dX12_does_0 rfl (lv_at hl 0 rfl) ?_
  refine gx_getr (j := 221) S hK hw t_199 cl_13 39 (by decide) rfl mw_1453 rfl dX12_does_1 ?_
  refine lv_iload_n hx hb dX12_does_4 rfl (lv_at hl 1 rfl) ?_
  obtain ⟨j_1, hj_1, hi_1, h⟩ := ck_some h
  refine gx_iald S hK hw t_221 j_1 hj_1 hi_1 dX12_does_5 ?_
  refine lv_istore_n (lv' := [(2, .int (σ 221 j_1)), (0, .ref (E.2.2 + 199)), (1, .int x1)]) hx hb dX12_does_6 rfl hl (by decide) rfl (fun ls hl => ?_)
  obtain ⟨v_2, e_2, h⟩ := nm_some h
  have hl : lv_has ls 5 [(2, .int v_2), (0, .ref (E.2.2 + 199)), (1, .int x1)] := by rw [e_2]; exact hl
  refine lv_aload_n hx hb dX12_does_7 rfl (lv_at hl 1 rfl) ?_
  refine gx_getr (j := 220) S hK hw t_199 cl_13 38 (by decide) rfl mw_1452 rfl dX12_does_8 ?_
  refine lv_iload_n hx hb dX12_does_11 rfl (lv_at hl 2 rfl) ?_
  refine gx_iald S hK hw t_220 j_1 hj_1 hi_1 dX12_does_12 ?_
  by_cases c_3 : (σ 220 j_1) = 0
  · rw [if_pos c_3] at h
    refine gx_top (v := 0) c_3 ?_
    refine lv_tableIn (tgt := 40) hx hb dX12_does_13 (by decide) (by decide) rfl (by decide) ?_
    refine lv_aload_n hx hb dX12_does_40 rfl (lv_at hl 1 rfl) ?_
    refine lv_iload_n hx hb dX12_does_41 rfl (lv_at hl 0 rfl) ?_
    refine lv_aload_n hx hb dX12_does_42 rfl (lv_at hl 1 rfl) ?_
    refine gx_getr (j := 222) S hK hw t_199 cl_13 40 (by decide) rfl mw_1454 rfl dX12_does_43 ?_
    refine lv_iload_n hx hb dX12_does_46 rfl (lv_at hl 2 rfl) ?_
    refine gx_iald S hK hw t_222 j_1 hj_1 hi_1 dX12_does_47 ?_
    refine lv_aload_n hx hb dX12_does_48 rfl (lv_at hl 1 rfl) ?_
    refine gx_getr (j := 223) S hK hw t_199 cl_13 41 (by decide) rfl mw_1455 rfl dX12_does_49 ?_
    refine lv_iload_n hx hb dX12_does_52 rfl (lv_at hl 2 rfl) ?_
    refine gx_iald S hK hw t_223 j_1 hj_1 hi_1 dX12_does_53 ?_
    refine lv_iconst (v := 0) hx hb dX12_does_54 (by decide) ?_
    obtain ⟨r_4, σ_4, τ_4, q_4, h⟩ := bd_some h
    refine gx_cVi (As := [.int v_2, .int (σ 222 j_1), .int (σ 223 j_1), .int 0]) (rest := []) S hK gx_ok hw (c_X12_comesNow l (E := E) N σ τ v_2 (σ 222 j_1) (σ 223 j_1) 0 q_4) cw_X12_339 t_199 cl_13 ⟨Nat.le_of_ble_eq_true rfl, Nat.le_of_ble_eq_true rfl⟩ rfl hl.1 rfl (Nat.le_of_ble_eq_true rfl) ⟨Nat.le_of_ble_eq_true rfl, Nat.le_of_ble_eq_true rfl⟩ dX12_does_55 (fun r9 σ9 τ9 H locs hp hw => ?_)
    obtain ⟨rfl, rfl, rfl⟩ := hp
    refine lv_if_lt (tgt := 65) hx hb dX12_does_58 (by decide) (fun c_5 => ?_) (fun c_5 => ?_)
    · rw [if_pos c_5] at h
      refine lv_iconst (v := 0) hx hb dX12_does_65 (by decide) ?_
      obtain ⟨rfl, rfl, rfl⟩ := sm_inj h
      exact gx_ri (post := gq_p 0 σ_4 τ_4) (v := 0) S hr hlk hw rfl dX12_does_66 ⟨rfl, rfl, rfl⟩
    · rw [if_neg c_5] at h
      refine lv_iconst (v := 1) hx hb dX12_does_61 (by decide) ?_
      refine lv_goto (tgt := 66) hx hb dX12_does_62 (by decide) ?_
      obtain ⟨rfl, rfl, rfl⟩ := sm_inj h
      exact gx_ri (post := gq_p 1 σ_4 τ_4) (v := 1) S hr hlk hw rfl dX12_does_66 ⟨rfl, rfl, rfl⟩
  rw [if_neg c_3] at h
  by_cases c_6 : (σ 220 j_1) = 1
  · rw [if_pos c_6] at h
    refine gx_top (v := 1) c_6 ?_
    refine lv_tableIn (tgt := 67) hx hb dX12_does_13 (by decide) (by decide) rfl (by decide) ?_
    refine lv_aload_n hx hb dX12_does_67 rfl (lv_at hl 1 rfl) ?_
    refine lv_iload_n hx hb dX12_does_68 rfl (lv_at hl 0 rfl) ?_
    obtain ⟨r_7, σ_7, τ_7, q_7, h⟩ := bd_some h
    refine gx_cVi (As := [.int v_2]) (rest := []) S hK gx_ok hw (c_X12_isFork l (E := E) N σ τ v_2 q_7) cw_X12_316 t_199 cl_13 ⟨Nat.le_of_ble_eq_true rfl, Nat.le_of_ble_eq_true rfl⟩ rfl hl.1 rfl (Nat.le_of_ble_eq_true rfl) ⟨Nat.le_of_ble_eq_true rfl, Nat.le_of_ble_eq_true rfl⟩ dX12_does_69 (fun r9 σ9 τ9 H locs hp hw => ?_)
    obtain ⟨rfl, rfl, rfl⟩ := hp
    refine lv_if_ne (tgt := 77) hx hb dX12_does_72 (by decide) (fun c_8 => ?_) (fun c_8 => ?_)
    · rw [if_neg c_8] at h
      refine lv_aload_n hx hb dX12_does_77 rfl (lv_at hl 1 rfl) ?_
      refine gx_getr (j := 206) S hK hw t_199 cl_13 10 (by decide) rfl mw_1424 rfl dX12_does_78 ?_
      refine lv_bipush (v := 42) hx hb dX12_does_81 (by decide) ?_
      refine lv_dup2_11 hx hb dX12_does_83 rfl rfl ?_
      refine gx_iald S hK hw t_206 42 rfl (gx_in rfl (by decide) (by decide)) dX12_does_84 ?_
      refine lv_iconst (v := 1) hx hb dX12_does_85 (by decide) ?_
      refine lv_iload_n hx hb dX12_does_86 rfl (lv_at hl 0 rfl) ?_
      refine lv_ishl hx hb dX12_does_87 ?_
      refine lv_ixor hx hb dX12_does_88 ?_
      refine gx_iast S hK gx_ok hw t_206 42 rfl (gx_in rfl (by decide) (by decide)) dX12_does_89 (fun H locs hw => ?_)
      obtain ⟨σ_9, e_9, h⟩ := nm_some h
      rw [← e_9] at hw
      refine lv_iconst (v := 1) hx hb dX12_does_90 (by decide) ?_
      obtain ⟨rfl, rfl, rfl⟩ := sm_inj h
      exact gx_ri (post := gq_p 1 σ_9 τ_7) (v := 1) S hr hlk hw rfl dX12_does_91 ⟨rfl, rfl, rfl⟩
    · rw [if_pos c_8] at h
      refine lv_iconst (v := 0) hx hb dX12_does_75 (by decide) ?_
      obtain ⟨rfl, rfl, rfl⟩ := sm_inj h
      exact gx_ri (post := gq_p 0 σ_7 τ_7) (v := 0) S hr hlk hw rfl dX12_does_76 ⟨rfl, rfl, rfl⟩
  rw [if_neg c_6] at h
  by_cases c_10 : (σ 220 j_1) = 2
  · rw [if_pos c_10] at h
    refine gx_top (v := 2) c_10 ?_
    refine lv_tableIn (tgt := 92) hx hb dX12_does_13 (by decide) (by decide) rfl (by decide) ?_
    refine lv_aload_n hx hb dX12_does_92 rfl (lv_at hl 1 rfl) ?_
    refine gx_getr (j := 206) S hK hw t_199 cl_13 10 (by decide) rfl mw_1424 rfl dX12_does_93 ?_
    refine lv_iconst (v := 1) hx hb dX12_does_96 (by decide) ?_
    obtain ⟨r_11, σ_11, τ_11, q_11, h⟩ := bd_some h
    refine gx_cSi (As := [.ref (E.2.2 + 206), .int 1]) (rest := []) S hK gx_ok hw (c_X12_thoseHow l (E := E) N 206 t_206 σ τ 1 q_11) cw_X12_346 ⟨Nat.le_of_ble_eq_true rfl, Nat.le_of_ble_eq_true rfl⟩ rfl hl.1 rfl (Nat.le_of_ble_eq_true rfl) ⟨Nat.le_of_ble_eq_true rfl, Nat.le_of_ble_eq_true rfl⟩ dX12_does_97 (fun r9 σ9 τ9 H locs hp hw => ?_)
    obtain ⟨rfl, rfl, rfl⟩ := hp
    refine lv_istore_n (lv' := [(3, .int r_11), (2, .int v_2), (0, .ref (E.2.2 + 199)), (1, .int x1)]) hx hb dX12_does_100 rfl hl (by decide) rfl (fun ls hl => ?_)
    refine lv_iconst (v := 0) hx hb dX12_does_101 (by decide) ?_
    refine lv_istore (lv' := [(4, .int 0), (3, .int r_11), (2, .int v_2), (0, .ref (E.2.2 + 199)), (1, .int x1)]) hx hb dX12_does_102 hl (by decide) rfl (fun ls hl => ?_)
    exact h_X12_does_104 l S hr hlk hK N N σ_11 τ_11 v_2 r_11 0 _ _ _ h _ _ _ hw (lv_sub hl [3, 2, 1, 0] rfl)
  rw [if_neg c_10] at h
  refine lv_tableOut (tgt := 150) hx hb dX12_does_13 (by have t_3 := lv_neT (a := 0) c_3 rfl; have t_6 := lv_neT (a := 1) c_6 rfl; have t_10 := lv_neT (a := 2) c_10 rfl; omega) (by decide) ?_
  refine lv_aload_n hx hb dX12_does_150 rfl (lv_at hl 1 rfl) ?_
  refine lv_iload_n hx hb dX12_does_151 rfl (lv_at hl 0 rfl) ?_
  refine lv_aload_n hx hb dX12_does_152 rfl (lv_at hl 1 rfl) ?_
  refine gx_getr (j := 222) S hK hw t_199 cl_13 40 (by decide) rfl mw_1454 rfl dX12_does_153 ?_
  refine lv_iload_n hx hb dX12_does_156 rfl (lv_at hl 2 rfl) ?_
  refine gx_iald S hK hw t_222 j_1 hj_1 hi_1 dX12_does_157 ?_
  obtain ⟨r_12, σ_12, τ_12, q_12, h⟩ := bd_some h
  refine gx_cVi (As := [.int v_2, .int (σ 222 j_1)]) (rest := []) S hK gx_ok hw (c_X12_gives l (E := E) N σ τ v_2 (σ 222 j_1) q_12) cw_X12_343 t_199 cl_13 ⟨Nat.le_of_ble_eq_true rfl, Nat.le_of_ble_eq_true rfl⟩ rfl hl.1 rfl (Nat.le_of_ble_eq_true rfl) ⟨Nat.le_of_ble_eq_true rfl, Nat.le_of_ble_eq_true rfl⟩ dX12_does_158 (fun r9 σ9 τ9 H locs hp hw => ?_)
  obtain ⟨rfl, rfl, rfl⟩ := hp
  refine lv_if_lt (tgt := 168) hx hb dX12_does_161 (by decide) (fun c_13 => ?_) (fun c_13 => ?_)
  · rw [if_pos c_13] at h
    refine lv_iconst (v := 0) hx hb dX12_does_168 (by decide) ?_
    obtain ⟨rfl, rfl, rfl⟩ := sm_inj h
    exact gx_ri (post := gq_p 0 σ_12 τ_12) (v := 0) S hr hlk hw rfl dX12_does_169 ⟨rfl, rfl, rfl⟩
  · rw [if_neg c_13] at h
    refine lv_iconst (v := 1) hx hb dX12_does_164 (by decide) ?_
    refine lv_goto (tgt := 169) hx hb dX12_does_165 (by decide) ?_
    obtain ⟨rfl, rfl, rfl⟩ := sm_inj h
    exact gx_ri (post := gq_p 1 σ_12 τ_12) (v := 1) S hr hlk hw rfl dX12_does_169 ⟨rfl, rfl, rfl⟩
set_option maxHeartbeats 4000000 in
set_option maxRecDepth 100000 in
theorem c_X12_does (l : Launch) {E : gE} (N : Nat) (σ : gI) (τ : gJ) (x1 : Int32) {r : Int32} {σ1 : gI} {τ1 : gJ} (h : B_X12_does_0 N σ τ x1 = some (r, σ1, τ1)) : gx_Mi l yX12_does cX12_does 5 (some .boolean) 6 gx_tb E σ τ [.ref (E.2.2 + 199), .int x1] (gq_p r σ1 τ1) := by
  refine gx_bi (by decide +kernel) (Nat.le_of_ble_eq_true rfl) ?_
  intro P9 e9 s m9 below meth C9 S hr hlk hK hw ls hl
  have hl : lv_has ls 5 [(0, .ref (E.2.2 + 199)), (1, .int x1)] := hl
  exact b_X12_does_0 l S hr hlk hK N σ τ x1 h hw hl
/-! X12_day -/
def B_X12_day_134 (N : Nat) (σ : gI) (τ : gJ) (x5 : Int32) (y0 : Int32) : Option (Int32 × gI × gJ) := bd (B_X12_flag_0 N σ τ y0) fun r_1 σ_1 τ_1 => bd (B_X12_enters_0 N σ_1 τ_1 r_1.toInt64) fun _ σ_2 τ_2 => bd (B_X12_enters_0 N σ_2 τ_2 ((σ_2 199 43).toInt64)) fun _ σ_3 τ_3 => if x5 ≤ 0 then (some (0, σ_3, τ_3)) else (bd (B_X12_adds_0 N σ_3 τ_3 x5) fun r_5 σ_5 τ_5 => some (r_5, σ_5, τ_5))
def C_X12_day_90 (N : Nat) (rec_90 : gI → gJ → Int32 → Option (Int32 × gI × gJ)) (σ : gI) (τ : gJ) (x5 : Int32) : Option (Int32 × gI × gJ) := if σ 199 42 ≤ x5 then (nm (up2 σ 199 1 0) fun σ_2 => if σ_2 199 42 ≤ x5 then (B_X12_day_134 N σ_2 τ x5 0) else (B_X12_day_134 N σ_2 τ x5 1)) else (bd (B_X12_does_0 N σ τ x5) fun r_4 σ_4 τ_4 => if r_4 = 0 then (nm (up2 σ_4 199 1 0) fun σ_6 => if σ_6 199 42 ≤ x5 then (B_X12_day_134 N σ_6 τ_4 x5 0) else (B_X12_day_134 N σ_6 τ_4 x5 1)) else (nm (x5 + 1) fun v_8 => rec_90 σ_4 τ_4 v_8))
def H_X12_day_90 (N : Nat) : Nat → gI → gJ → Int32 → Option (Int32 × gI × gJ) := itn (fun rec_90 => C_X12_day_90 N rec_90) (fun _ _ _ => none)
def C_X12_day_29 (N : Nat) (rec_29 : gI → gJ → Int32 → Int32 → Int32 → Option (Int32 × gI × gJ)) (σ : gI) (τ : gJ) (x1 : Int32) (x2 : Int32) (x3 : Int32) : Option (Int32 × gI × gJ) := if x3 = 0 then (bd (B_X12_faultOf_0 N σ τ x1 60 x2) fun r_2 σ_2 τ_2 => if 0 ≤ r_2 then (bd (B_X12_putsBy_0 N σ_2 τ_2) fun _ σ_4 τ_4 => nm (up2 σ_4 199 43 0) fun σ_5 => H_X12_day_90 N N σ_5 τ_4 0) else (some (r_2, σ_2, τ_2))) else (bd (B_X12_readsAct_0 N σ τ) fun r_6 σ_6 τ_6 => if r_6 = 0 then (rec_29 σ_6 τ_6 x1 r_6 0) else (bd (B_X12_takes_0 N σ_6 τ_6 59) fun r_8 σ_8 τ_8 => if r_8 = 0 then (rec_29 σ_8 τ_8 x1 r_6 0) else (rec_29 σ_8 τ_8 x1 r_6 1)))
def H_X12_day_29 (N : Nat) : Nat → gI → gJ → Int32 → Int32 → Int32 → Option (Int32 × gI × gJ) := itn (fun rec_29 => C_X12_day_29 N rec_29) (fun _ _ _ _ _ => none)
def B_X12_day_0 (N : Nat) (σ : gI) (τ : gJ) : Option (Int32 × gI × gJ) := nm (up2 σ 199 0 0) fun σ_1 => bd (B_X12_begins_0 N σ_1 τ 60) fun r_2 σ_2 τ_2 => nm (up2 σ_2 199 42 0) fun σ_3 => if r_2 ≤ 0 then (H_X12_day_29 N N σ_3 τ_2 r_2 1 0) else (H_X12_day_29 N N σ_3 τ_2 r_2 1 1)
set_option maxHeartbeats 4000000 in
set_option maxRecDepth 100000 in
theorem b_X12_day_134 (l : Launch) (S : CallFix P9 m9 C9 cX12_day 6 s av.toArray gx_G RX12) (hr : meth.sig.returnType = (some .int)) (hlk : meth.locks = false) (hK : gx_K E s) (N : Nat) (σ : gI) (τ : gJ) (x5 : Int32) (y0 : Int32) {r : Int32} {σ1 : gI} {τ1 : gJ} (h : B_X12_day_134 N σ τ x5 y0 = some (r, σ1, τ1)) {H : Heap} {locs : List Loc} {ls : Array Slot} (hw : gx_W gx_tb gx_tb.length E s σ τ H locs) (hl : lv_has ls 6 [(0, .ref (E.2.2 + 199)), (5, .int x5)]) : W P9 l e9 (gx_rm 7) s m9 av.toArray below meth C9 H locs 0 0 (gq_Qi below av s E r σ1 τ1) (F0 m9 134 ls [.int y0, .ref (E.2.2 + 199)]) := by
  have hx := S.1
  have hb := S.2.1
  unfold B_X12_day_134 at h
  obtain ⟨r_1, σ_1, τ_1, q_1, h⟩ := bd_some h
  refine gx_cSi (As := [.int y0]) (rest := [.ref (E.2.2 + 199)]) S hK gx_ok hw (c_X12_flag l (E := E) N σ τ y0 q_1) cw_X12_155 ⟨Nat.le_of_ble_eq_true rfl, Nat.le_of_ble_eq_true rfl⟩ rfl hl.1 rfl (Nat.le_of_ble_eq_true rfl) ⟨Nat.le_of_ble_eq_true rfl, Nat.le_of_ble_eq_true rfl⟩ dX12_day_134 (fun r9 σ9 τ9 H locs hp hw => ?_)
  obtain ⟨rfl, rfl, rfl⟩ := hp
  refine lv_i2l (v := r_1.toInt64) hx hb dX12_day_137 rfl ?_
  obtain ⟨u_2, σ_2, τ_2, q_2, h⟩ := bd_some h
  refine gx_cVv (As := [.long r_1.toInt64]) (rest := []) S hK gx_ok hw (c_X12_enters l (E := E) N σ_1 τ_1 r_1.toInt64 q_2) cw_X12_122 t_199 cl_13 ⟨Nat.le_of_ble_eq_true rfl, Nat.le_of_ble_eq_true rfl⟩ rfl hl.1 rfl (Nat.le_of_ble_eq_true rfl) ⟨Nat.le_of_ble_eq_true rfl, Nat.le_of_ble_eq_true rfl⟩ dX12_day_138 (fun σ9 τ9 H locs hp hw => ?_)
  obtain ⟨rfl, rfl⟩ := hp
  refine lv_aload_n hx hb dX12_day_141 rfl (lv_at hl 0 rfl) ?_
  refine lv_aload_n hx hb dX12_day_142 rfl (lv_at hl 0 rfl) ?_
  refine gx_get S hK hw t_199 cl_13 43 (by decide) rfl mw_1457 rfl dX12_day_143 ?_
  refine lv_i2l (v := (σ_2 199 43).toInt64) hx hb dX12_day_146 rfl ?_
  obtain ⟨u_3, σ_3, τ_3, q_3, h⟩ := bd_some h
  refine gx_cVv (As := [.long ((σ_2 199 43).toInt64)]) (rest := []) S hK gx_ok hw (c_X12_enters l (E := E) N σ_2 τ_2 ((σ_2 199 43).toInt64) q_3) cw_X12_122 t_199 cl_13 ⟨Nat.le_of_ble_eq_true rfl, Nat.le_of_ble_eq_true rfl⟩ rfl hl.1 rfl (Nat.le_of_ble_eq_true rfl) ⟨Nat.le_of_ble_eq_true rfl, Nat.le_of_ble_eq_true rfl⟩ dX12_day_147 (fun σ9 τ9 H locs hp hw => ?_)
  obtain ⟨rfl, rfl⟩ := hp
  refine lv_iload hx hb dX12_day_150 (lv_at hl 1 rfl) ?_
  refine lv_if_le (tgt := 164) hx hb dX12_day_152 (by decide) (fun c_4 => ?_) (fun c_4 => ?_)
  · rw [if_pos c_4] at h
    refine lv_iconst (v := 0) hx hb dX12_day_164 (by decide) ?_
    obtain ⟨rfl, rfl, rfl⟩ := sm_inj h
    exact gx_ri (post := gq_p 0 σ_3 τ_3) (v := 0) S hr hlk hw rfl dX12_day_165 ⟨rfl, rfl, rfl⟩
  · rw [if_neg c_4] at h
    refine lv_aload_n hx hb dX12_day_155 rfl (lv_at hl 0 rfl) ?_
    refine lv_iload hx hb dX12_day_156 (lv_at hl 1 rfl) ?_
    obtain ⟨r_5, σ_5, τ_5, q_5, h⟩ := bd_some h
    refine gx_cVi (As := [.int x5]) (rest := []) S hK gx_ok hw (c_X12_adds l (E := E) N σ_3 τ_3 x5 q_5) cw_X12_322 t_199 cl_13 ⟨Nat.le_of_ble_eq_true rfl, Nat.le_of_ble_eq_true rfl⟩ rfl hl.1 rfl (Nat.le_of_ble_eq_true rfl) ⟨Nat.le_of_ble_eq_true rfl, Nat.le_of_ble_eq_true rfl⟩ dX12_day_158 (fun r9 σ9 τ9 H locs hp hw => ?_)
    obtain ⟨rfl, rfl, rfl⟩ := hp
    refine lv_goto (tgt := 165) hx hb dX12_day_161 (by decide) ?_
    obtain ⟨rfl, rfl, rfl⟩ := sm_inj h
    exact gx_ri (post := gq_p r_5 σ_5 τ_5) (v := r_5) S hr hlk hw rfl dX12_day_165 ⟨rfl, rfl, rfl⟩
set_option maxHeartbeats 4000000 in
set_option maxRecDepth 100000 in
theorem k_X12_day_90 (l : Launch) (S : CallFix P9 m9 C9 cX12_day 6 s av.toArray gx_G RX12) (hr : meth.sig.returnType = (some .int)) (hlk : meth.locks = false) (hK : gx_K E s) (N : Nat) (rec_90 : gI → gJ → Int32 → Option (Int32 × gI × gJ)) (hrec_90 : ∀ (σ : gI) (τ : gJ) (x5 : Int32) (r : Int32) (σ1 : gI) (τ1 : gJ) (H : Heap) (locs : List Loc) (ls : Array Slot), rec_90 σ τ x5 = some (r, σ1, τ1) → gx_W gx_tb gx_tb.length E s σ τ H locs → lv_has ls 6 [(0, .ref (E.2.2 + 199)), (5, .int x5)] → W P9 l e9 (gx_rm 7) s m9 av.toArray below meth C9 H locs 0 0 (gq_Qi below av s E r σ1 τ1) (F0 m9 90 ls [])) (σ : gI) (τ : gJ) (x5 : Int32) {r : Int32} {σ1 : gI} {τ1 : gJ} (h : C_X12_day_90 N rec_90 σ τ x5 = some (r, σ1, τ1)) {H : Heap} {locs : List Loc} {ls : Array Slot} (hw : gx_W gx_tb gx_tb.length E s σ τ H locs) (hl : lv_has ls 6 [(0, .ref (E.2.2 + 199)), (5, .int x5)]) : W P9 l e9 (gx_rm 7) s m9 av.toArray below meth C9 H locs 0 0 (gq_Qi below av s E r σ1 τ1) (F0 m9 90 ls []) := by
  have hx := S.1
  have hb := S.2.1
  unfold C_X12_day_90 at h
  refine lv_iload hx hb dX12_day_90 (lv_at hl 1 rfl) ?_
  refine lv_aload_n hx hb dX12_day_92 rfl (lv_at hl 0 rfl) ?_
  refine gx_get S hK hw t_199 cl_13 42 (by decide) rfl mw_1456 rfl dX12_day_93 ?_
  refine lv_icmp_ge (tgt := 114) hx hb dX12_day_96 (by decide) (fun c_1 => ?_) (fun c_1 => ?_)
  · rw [if_pos c_1] at h
    refine lv_aload_n hx hb dX12_day_114 rfl (lv_at hl 0 rfl) ?_
    refine lv_iconst (v := 0) hx hb dX12_day_115 (by decide) ?_
    refine gx_put S hK gx_ok hw t_199 cl_13 1 (by decide) rfl mw_1415 rfl rfl (ty := .int) (v := 0) (by decide +kernel) rfl rfl dX12_day_116 (fun H locs hw => ?_)
    obtain ⟨σ_2, e_2, h⟩ := nm_some h
    rw [← e_2] at hw
    refine lv_aload_n hx hb dX12_day_119 rfl (lv_at hl 0 rfl) ?_
    refine lv_iload hx hb dX12_day_120 (lv_at hl 1 rfl) ?_
    refine lv_aload_n hx hb dX12_day_122 rfl (lv_at hl 0 rfl) ?_
    refine gx_get S hK hw t_199 cl_13 42 (by decide) rfl mw_1456 rfl dX12_day_123 ?_
    refine lv_icmp_ge (tgt := 133) hx hb dX12_day_126 (by decide) (fun c_3 => ?_) (fun c_3 => ?_)
    · rw [if_pos c_3] at h
      refine lv_iconst (v := 0) hx hb dX12_day_133 (by decide) ?_
      exact b_X12_day_134 l S hr hlk hK N σ_2 τ x5 0 h hw (lv_sub hl [0, 1] rfl)
    · rw [if_neg c_3] at h
      refine lv_iconst (v := 1) hx hb dX12_day_129 (by decide) ?_
      refine lv_goto (tgt := 134) hx hb dX12_day_130 (by decide) ?_
      exact b_X12_day_134 l S hr hlk hK N σ_2 τ x5 1 h hw (lv_sub hl [0, 1] rfl)
  · rw [if_neg c_1] at h
    refine lv_aload_n hx hb dX12_day_99 rfl (lv_at hl 0 rfl) ?_
    refine lv_iload hx hb dX12_day_100 (lv_at hl 1 rfl) ?_
    obtain ⟨r_4, σ_4, τ_4, q_4, h⟩ := bd_some h
    refine gx_cVi (As := [.int x5]) (rest := []) S hK gx_ok hw (c_X12_does l (E := E) N σ τ x5 q_4) cw_X12_371 t_199 cl_13 ⟨Nat.le_of_ble_eq_true rfl, Nat.le_of_ble_eq_true rfl⟩ rfl hl.1 rfl (Nat.le_of_ble_eq_true rfl) ⟨Nat.le_of_ble_eq_true rfl, Nat.le_of_ble_eq_true rfl⟩ dX12_day_102 (fun r9 σ9 τ9 H locs hp hw => ?_)
    obtain ⟨rfl, rfl, rfl⟩ := hp
    refine lv_if_eq (tgt := 114) hx hb dX12_day_105 (by decide) (fun c_5 => ?_) (fun c_5 => ?_)
    · rw [if_pos c_5] at h
      refine lv_aload_n hx hb dX12_day_114 rfl (lv_at hl 0 rfl) ?_
      refine lv_iconst (v := 0) hx hb dX12_day_115 (by decide) ?_
      refine gx_put S hK gx_ok hw t_199 cl_13 1 (by decide) rfl mw_1415 rfl rfl (ty := .int) (v := 0) (by decide +kernel) rfl rfl dX12_day_116 (fun H locs hw => ?_)
      obtain ⟨σ_6, e_6, h⟩ := nm_some h
      rw [← e_6] at hw
      refine lv_aload_n hx hb dX12_day_119 rfl (lv_at hl 0 rfl) ?_
      refine lv_iload hx hb dX12_day_120 (lv_at hl 1 rfl) ?_
      refine lv_aload_n hx hb dX12_day_122 rfl (lv_at hl 0 rfl) ?_
      refine gx_get S hK hw t_199 cl_13 42 (by decide) rfl mw_1456 rfl dX12_day_123 ?_
      refine lv_icmp_ge (tgt := 133) hx hb dX12_day_126 (by decide) (fun c_7 => ?_) (fun c_7 => ?_)
      · rw [if_pos c_7] at h
        refine lv_iconst (v := 0) hx hb dX12_day_133 (by decide) ?_
        exact b_X12_day_134 l S hr hlk hK N σ_6 τ_4 x5 0 h hw (lv_sub hl [0, 1] rfl)
      · rw [if_neg c_7] at h
        refine lv_iconst (v := 1) hx hb dX12_day_129 (by decide) ?_
        refine lv_goto (tgt := 134) hx hb dX12_day_130 (by decide) ?_
        exact b_X12_day_134 l S hr hlk hK N σ_6 τ_4 x5 1 h hw (lv_sub hl [0, 1] rfl)
    · rw [if_neg c_5] at h
      refine lv_iinc (v := x5 + 1) (lv' := [(5, .int (x5 + 1)), (0, .ref (E.2.2 + 199))]) hx hb dX12_day_108 hl (k := 1) rfl rfl (by decide) rfl (fun ls hl => ?_)
      obtain ⟨v_8, e_8, h⟩ := nm_some h
      have hl : lv_has ls 6 [(5, .int v_8), (0, .ref (E.2.2 + 199))] := by rw [e_8]; exact hl
      refine lv_goto (tgt := 90) hx hb dX12_day_111 (by decide) ?_
      exact hrec_90 σ_4 τ_4 v_8 _ _ _ _ _ _ h hw (lv_sub hl [1, 0] rfl)
set_option maxHeartbeats 4000000 in
set_option maxRecDepth 100000 in
theorem h_X12_day_90 (l : Launch) (S : CallFix P9 m9 C9 cX12_day 6 s av.toArray gx_G RX12) (hr : meth.sig.returnType = (some .int)) (hlk : meth.locks = false) (hK : gx_K E s) (N : Nat) : ∀ (n : Nat) (σ : gI) (τ : gJ) (x5 : Int32) (r : Int32) (σ1 : gI) (τ1 : gJ), H_X12_day_90 N n σ τ x5 = some (r, σ1, τ1) → ∀ (H : Heap) (locs : List Loc) (ls : Array Slot), gx_W gx_tb gx_tb.length E s σ τ H locs → lv_has ls 6 [(0, .ref (E.2.2 + 199)), (5, .int x5)] → W P9 l e9 (gx_rm 7) s m9 av.toArray below meth C9 H locs 0 0 (gq_Qi below av s E r σ1 τ1) (F0 m9 90 ls []) := by
  intro n
  induction n with
  | zero => intro σ τ x5 r σ1 τ1 h; cases h
  | succ n ih =>
    intro σ τ x5 r σ1 τ1 h H locs ls hw hl
    exact k_X12_day_90 l S hr hlk hK N (H_X12_day_90 N n) (fun σ τ x5 r σ1 τ1 H locs ls h hw hl => ih σ τ x5 r σ1 τ1 h H locs ls hw hl) σ τ x5 h hw hl
set_option maxHeartbeats 4000000 in
set_option maxRecDepth 100000 in
theorem k_X12_day_29 (l : Launch) (S : CallFix P9 m9 C9 cX12_day 6 s av.toArray gx_G RX12) (hr : meth.sig.returnType = (some .int)) (hlk : meth.locks = false) (hK : gx_K E s) (N : Nat) (rec_29 : gI → gJ → Int32 → Int32 → Int32 → Option (Int32 × gI × gJ)) (hrec_29 : ∀ (σ : gI) (τ : gJ) (x1 : Int32) (x2 : Int32) (x3 : Int32) (r : Int32) (σ1 : gI) (τ1 : gJ) (H : Heap) (locs : List Loc) (ls : Array Slot), rec_29 σ τ x1 x2 x3 = some (r, σ1, τ1) → gx_W gx_tb gx_tb.length E s σ τ H locs → lv_has ls 6 [(0, .ref (E.2.2 + 199)), (1, .int x1), (2, .int x2), (3, .int x3)] → W P9 l e9 (gx_rm 7) s m9 av.toArray below meth C9 H locs 0 0 (gq_Qi below av s E r σ1 τ1) (F0 m9 29 ls [])) (σ : gI) (τ : gJ) (x1 : Int32) (x2 : Int32) (x3 : Int32) {r : Int32} {σ1 : gI} {τ1 : gJ} (h : C_X12_day_29 N rec_29 σ τ x1 x2 x3 = some (r, σ1, τ1)) {H : Heap} {locs : List Loc} {ls : Array Slot} (hw : gx_W gx_tb gx_tb.length E s σ τ H locs) (hl : lv_has ls 6 [(0, .ref (E.2.2 + 199)), (1, .int x1), (2, .int x2), (3, .int x3)]) : W P9 l e9 (gx_rm 7) s m9 av.toArray below meth C9 H locs 0 0 (gq_Qi below av s E r σ1 τ1) (F0 m9 29 ls []) := by
  have hx := S.1
  have hb := S.2.1
  unfold C_X12_day_29 at h
  refine lv_iload_n hx hb dX12_day_29 rfl (lv_at hl 3 rfl) ?_
  refine lv_if_eq (tgt := 60) hx hb dX12_day_30 (by decide) (fun c_1 => ?_) (fun c_1 => ?_)
  · rw [if_pos c_1] at h
    refine lv_aload_n hx hb dX12_day_60 rfl (lv_at hl 0 rfl) ?_
    refine lv_iload_n hx hb dX12_day_61 rfl (lv_at hl 1 rfl) ?_
    refine lv_bipush (v := 60) hx hb dX12_day_62 (by decide) ?_
    refine lv_iload_n hx hb dX12_day_64 rfl (lv_at hl 2 rfl) ?_
    obtain ⟨r_2, σ_2, τ_2, q_2, h⟩ := bd_some h
    refine gx_cVi (As := [.int x1, .int 60, .int x2]) (rest := []) S hK gx_ok hw (c_X12_faultOf l (E := E) N σ τ x1 60 x2 q_2) cw_X12_213 t_199 cl_13 ⟨Nat.le_of_ble_eq_true rfl, Nat.le_of_ble_eq_true rfl⟩ rfl hl.1 rfl (Nat.le_of_ble_eq_true rfl) ⟨Nat.le_of_ble_eq_true rfl, Nat.le_of_ble_eq_true rfl⟩ dX12_day_65 (fun r9 σ9 τ9 H locs hp hw => ?_)
    obtain ⟨rfl, rfl, rfl⟩ := hp
    refine lv_istore (lv' := [(4, .int r_2), (0, .ref (E.2.2 + 199)), (1, .int x1), (2, .int x2), (3, .int x3)]) hx hb dX12_day_68 hl (by decide) rfl (fun ls hl => ?_)
    refine lv_iload hx hb dX12_day_70 (lv_at hl 0 rfl) ?_
    refine lv_if_ge (tgt := 78) hx hb dX12_day_72 (by decide) (fun c_3 => ?_) (fun c_3 => ?_)
    · rw [if_pos c_3] at h
      refine lv_aload_n hx hb dX12_day_78 rfl (lv_at hl 1 rfl) ?_
      obtain ⟨u_4, σ_4, τ_4, q_4, h⟩ := bd_some h
      refine gx_cVv (As := []) (rest := []) S hK gx_ok hw (c_X12_putsBy l (E := E) N σ_2 τ_2 q_4) cw_X12_319 t_199 cl_13 ⟨Nat.le_of_ble_eq_true rfl, Nat.le_of_ble_eq_true rfl⟩ rfl hl.1 rfl (Nat.le_of_ble_eq_true rfl) ⟨Nat.le_of_ble_eq_true rfl, Nat.le_of_ble_eq_true rfl⟩ dX12_day_79 (fun σ9 τ9 H locs hp hw => ?_)
      obtain ⟨rfl, rfl⟩ := hp
      refine lv_aload_n hx hb dX12_day_82 rfl (lv_at hl 1 rfl) ?_
      refine lv_iconst (v := 0) hx hb dX12_day_83 (by decide) ?_
      refine gx_put S hK gx_ok hw t_199 cl_13 43 (by decide) rfl mw_1457 rfl rfl (ty := .int) (v := 0) (by decide +kernel) rfl rfl dX12_day_84 (fun H locs hw => ?_)
      obtain ⟨σ_5, e_5, h⟩ := nm_some h
      rw [← e_5] at hw
      refine lv_iconst (v := 0) hx hb dX12_day_87 (by decide) ?_
      refine lv_istore (lv' := [(5, .int 0), (4, .int r_2), (0, .ref (E.2.2 + 199)), (1, .int x1), (2, .int x2), (3, .int x3)]) hx hb dX12_day_88 hl (by decide) rfl (fun ls hl => ?_)
      exact h_X12_day_90 l S hr hlk hK N N σ_5 τ_4 0 _ _ _ h _ _ _ hw (lv_sub hl [2, 0] rfl)
    · rw [if_neg c_3] at h
      refine lv_iload hx hb dX12_day_75 (lv_at hl 0 rfl) ?_
      obtain ⟨rfl, rfl, rfl⟩ := sm_inj h
      exact gx_ri (post := gq_p r_2 σ_2 τ_2) (v := r_2) S hr hlk hw rfl dX12_day_77 ⟨rfl, rfl, rfl⟩
  · rw [if_neg c_1] at h
    refine lv_aload_n hx hb dX12_day_33 rfl (lv_at hl 0 rfl) ?_
    obtain ⟨r_6, σ_6, τ_6, q_6, h⟩ := bd_some h
    refine gx_cVi (As := []) (rest := []) S hK gx_ok hw (c_X12_readsAct l (E := E) N σ τ q_6) cw_X12_368 t_199 cl_13 ⟨Nat.le_of_ble_eq_true rfl, Nat.le_of_ble_eq_true rfl⟩ rfl hl.1 rfl (Nat.le_of_ble_eq_true rfl) ⟨Nat.le_of_ble_eq_true rfl, Nat.le_of_ble_eq_true rfl⟩ dX12_day_34 (fun r9 σ9 τ9 H locs hp hw => ?_)
    obtain ⟨rfl, rfl, rfl⟩ := hp
    refine lv_istore_n (lv' := [(2, .int r_6), (0, .ref (E.2.2 + 199)), (1, .int x1), (3, .int x3)]) hx hb dX12_day_37 rfl hl (by decide) rfl (fun ls hl => ?_)
    refine lv_iload_n hx hb dX12_day_38 rfl (lv_at hl 0 rfl) ?_
    refine lv_if_eq (tgt := 55) hx hb dX12_day_39 (by decide) (fun c_7 => ?_) (fun c_7 => ?_)
    · rw [if_pos c_7] at h
      refine lv_iconst (v := 0) hx hb dX12_day_55 (by decide) ?_
      refine lv_istore_n (lv' := [(3, .int 0), (2, .int r_6), (0, .ref (E.2.2 + 199)), (1, .int x1)]) hx hb dX12_day_56 rfl hl (by decide) rfl (fun ls hl => ?_)
      refine lv_goto (tgt := 29) hx hb dX12_day_57 (by decide) ?_
      exact hrec_29 σ_6 τ_6 x1 r_6 0 _ _ _ _ _ _ h hw (lv_sub hl [2, 3, 1, 0] rfl)
    · rw [if_neg c_7] at h
      refine lv_aload_n hx hb dX12_day_42 rfl (lv_at hl 1 rfl) ?_
      refine lv_bipush (v := 59) hx hb dX12_day_43 (by decide) ?_
      obtain ⟨r_8, σ_8, τ_8, q_8, h⟩ := bd_some h
      refine gx_cVi (As := [.int 59]) (rest := []) S hK gx_ok hw (c_X12_takes l (E := E) N σ_6 τ_6 59 q_8) cw_X12_210 t_199 cl_13 ⟨Nat.le_of_ble_eq_true rfl, Nat.le_of_ble_eq_true rfl⟩ rfl hl.1 rfl (Nat.le_of_ble_eq_true rfl) ⟨Nat.le_of_ble_eq_true rfl, Nat.le_of_ble_eq_true rfl⟩ dX12_day_45 (fun r9 σ9 τ9 H locs hp hw => ?_)
      obtain ⟨rfl, rfl, rfl⟩ := hp
      refine lv_if_eq (tgt := 55) hx hb dX12_day_48 (by decide) (fun c_9 => ?_) (fun c_9 => ?_)
      · rw [if_pos c_9] at h
        refine lv_iconst (v := 0) hx hb dX12_day_55 (by decide) ?_
        refine lv_istore_n (lv' := [(3, .int 0), (2, .int r_6), (0, .ref (E.2.2 + 199)), (1, .int x1)]) hx hb dX12_day_56 rfl hl (by decide) rfl (fun ls hl => ?_)
        refine lv_goto (tgt := 29) hx hb dX12_day_57 (by decide) ?_
        exact hrec_29 σ_8 τ_8 x1 r_6 0 _ _ _ _ _ _ h hw (lv_sub hl [2, 3, 1, 0] rfl)
      · rw [if_neg c_9] at h
        refine lv_iconst (v := 1) hx hb dX12_day_51 (by decide) ?_
        refine lv_goto (tgt := 56) hx hb dX12_day_52 (by decide) ?_
        refine lv_istore_n (lv' := [(3, .int 1), (2, .int r_6), (0, .ref (E.2.2 + 199)), (1, .int x1)]) hx hb dX12_day_56 rfl hl (by decide) rfl (fun ls hl => ?_)
        refine lv_goto (tgt := 29) hx hb dX12_day_57 (by decide) ?_
        exact hrec_29 σ_8 τ_8 x1 r_6 1 _ _ _ _ _ _ h hw (lv_sub hl [2, 3, 1, 0] rfl)
set_option maxHeartbeats 4000000 in
set_option maxRecDepth 100000 in
theorem h_X12_day_29 (l : Launch) (S : CallFix P9 m9 C9 cX12_day 6 s av.toArray gx_G RX12) (hr : meth.sig.returnType = (some .int)) (hlk : meth.locks = false) (hK : gx_K E s) (N : Nat) : ∀ (n : Nat) (σ : gI) (τ : gJ) (x1 : Int32) (x2 : Int32) (x3 : Int32) (r : Int32) (σ1 : gI) (τ1 : gJ), H_X12_day_29 N n σ τ x1 x2 x3 = some (r, σ1, τ1) → ∀ (H : Heap) (locs : List Loc) (ls : Array Slot), gx_W gx_tb gx_tb.length E s σ τ H locs → lv_has ls 6 [(0, .ref (E.2.2 + 199)), (1, .int x1), (2, .int x2), (3, .int x3)] → W P9 l e9 (gx_rm 7) s m9 av.toArray below meth C9 H locs 0 0 (gq_Qi below av s E r σ1 τ1) (F0 m9 29 ls []) := by
  intro n
  induction n with
  | zero => intro σ τ x1 x2 x3 r σ1 τ1 h; cases h
  | succ n ih =>
    intro σ τ x1 x2 x3 r σ1 τ1 h H locs ls hw hl
    exact k_X12_day_29 l S hr hlk hK N (H_X12_day_29 N n) (fun σ τ x1 x2 x3 r σ1 τ1 H locs ls h hw hl => ih σ τ x1 x2 x3 r σ1 τ1 h H locs ls hw hl) σ τ x1 x2 x3 h hw hl
set_option maxHeartbeats 4000000 in
set_option maxRecDepth 100000 in
theorem b_X12_day_0 (l : Launch) (S : CallFix P9 m9 C9 cX12_day 6 s av.toArray gx_G RX12) (hr : meth.sig.returnType = (some .int)) (hlk : meth.locks = false) (hK : gx_K E s) (N : Nat) (σ : gI) (τ : gJ) {r : Int32} {σ1 : gI} {τ1 : gJ} (h : B_X12_day_0 N σ τ = some (r, σ1, τ1)) {H : Heap} {locs : List Loc} {ls : Array Slot} (hw : gx_W gx_tb gx_tb.length E s σ τ H locs) (hl : lv_has ls 6 [(0, .ref (E.2.2 + 199))]) : W P9 l e9 (gx_rm 7) s m9 av.toArray below meth C9 H locs 0 0 (gq_Qi below av s E r σ1 τ1) (F0 m9 0 ls []) := by
  have hx := S.1
  have hb := S.2.1
  unfold B_X12_day_0 at h
  refine lv_aload_n hx hb dX12_day_0 rfl (lv_at hl 0 rfl) ?_
  refine lv_iconst (v := 0) hx hb dX12_day_1 (by decide) ?_
  refine gx_put S hK gx_ok hw t_199 cl_13 0 (by decide) rfl mw_1414 rfl rfl (ty := .int) (v := 0) (by decide +kernel) rfl rfl dX12_day_2 (fun H locs hw => ?_)
  obtain ⟨σ_1, e_1, h⟩ := nm_some h
  rw [← e_1] at hw
  refine lv_aload_n hx hb dX12_day_5 rfl (lv_at hl 0 rfl) ?_
  refine lv_bipush (v := 60) hx hb dX12_day_6 (by decide) ?_
  obtain ⟨r_2, σ_2, τ_2, q_2, h⟩ := bd_some h
  refine gx_cVi (As := [.int 60]) (rest := []) S hK gx_ok hw (c_X12_begins l (E := E) N σ_1 τ 60 q_2) cw_X12_203 t_199 cl_13 ⟨Nat.le_of_ble_eq_true rfl, Nat.le_of_ble_eq_true rfl⟩ rfl hl.1 rfl (Nat.le_of_ble_eq_true rfl) ⟨Nat.le_of_ble_eq_true rfl, Nat.le_of_ble_eq_true rfl⟩ dX12_day_8 (fun r9 σ9 τ9 H locs hp hw => ?_)
  obtain ⟨rfl, rfl, rfl⟩ := hp
  refine lv_istore_n (lv' := [(1, .int r_2), (0, .ref (E.2.2 + 199))]) hx hb dX12_day_11 rfl hl (by decide) rfl (fun ls hl => ?_)
  refine lv_aload_n hx hb dX12_day_12 rfl (lv_at hl 1 rfl) ?_
  refine lv_iconst (v := 0) hx hb dX12_day_13 (by decide) ?_
  refine gx_put S hK gx_ok hw t_199 cl_13 42 (by decide) rfl mw_1456 rfl rfl (ty := .int) (v := 0) (by decide +kernel) rfl rfl dX12_day_14 (fun H locs hw => ?_)
  obtain ⟨σ_3, e_3, h⟩ := nm_some h
  rw [← e_3] at hw
  refine lv_iconst (v := 1) hx hb dX12_day_17 (by decide) ?_
  refine lv_istore_n (lv' := [(2, .int 1), (1, .int r_2), (0, .ref (E.2.2 + 199))]) hx hb dX12_day_18 rfl hl (by decide) rfl (fun ls hl => ?_)
  refine lv_iload_n hx hb dX12_day_19 rfl (lv_at hl 1 rfl) ?_
  refine lv_if_le (tgt := 27) hx hb dX12_day_20 (by decide) (fun c_4 => ?_) (fun c_4 => ?_)
  · rw [if_pos c_4] at h
    refine lv_iconst (v := 0) hx hb dX12_day_27 (by decide) ?_
    refine lv_istore_n (lv' := [(3, .int 0), (2, .int 1), (1, .int r_2), (0, .ref (E.2.2 + 199))]) hx hb dX12_day_28 rfl hl (by decide) rfl (fun ls hl => ?_)
    exact h_X12_day_29 l S hr hlk hK N N σ_3 τ_2 r_2 1 0 _ _ _ h _ _ _ hw (lv_sub hl [3, 2, 1, 0] rfl)
  · rw [if_neg c_4] at h
    refine lv_iconst (v := 1) hx hb dX12_day_23 (by decide) ?_
    refine lv_goto (tgt := 28) hx hb dX12_day_24 (by decide) ?_
    refine lv_istore_n (lv' := [(3, .int 1), (2, .int 1), (1, .int r_2), (0, .ref (E.2.2 + 199))]) hx hb dX12_day_28 rfl hl (by decide) rfl (fun ls hl => ?_)
    exact h_X12_day_29 l S hr hlk hK N N σ_3 τ_2 r_2 1 1 _ _ _ h _ _ _ hw (lv_sub hl [3, 2, 1, 0] rfl)
set_option maxHeartbeats 4000000 in
set_option maxRecDepth 100000 in
theorem c_X12_day (l : Launch) {E : gE} (N : Nat) (σ : gI) (τ : gJ) {r : Int32} {σ1 : gI} {τ1 : gJ} (h : B_X12_day_0 N σ τ = some (r, σ1, τ1)) : gx_Mi l yX12_day cX12_day 6 (some .int) 7 gx_tb E σ τ [.ref (E.2.2 + 199)] (gq_p r σ1 τ1) := by
  refine gx_bi (by decide +kernel) (Nat.le_of_ble_eq_true rfl) ?_
  intro P9 e9 s m9 below meth C9 S hr hlk hK hw ls hl
  have hl : lv_has ls 6 [(0, .ref (E.2.2 + 199))] := hl
  exact b_X12_day_0 l S hr hlk hK N σ τ h hw hl
/-! X12_playsOut -/
def B_X12_playsOut_0 (N : Nat) (σ : gI) (τ : gJ) (x1 : Int32) : Option (Int32 × gI × gJ) := ck x1 4096 fun j_1 => if 0 ≤ σ 225 j_1 then (some (σ 225 j_1, σ, τ)) else (nm (up2 σ 199 45 x1) fun σ_3 => bd (B_X12_sails_0 N σ_3 τ (σ_3 199 48) (σ_3 199 49) (σ_3 199 50) 0 (σ_3 199 51)) fun r_4 σ_4 τ_4 => if r_4 < 0 then (bd (B_X12_flag_0 N σ_4 τ_4 0) fun r_6 σ_6 τ_6 => nm (up2 σ_6 225 j_1 r_6) fun σ_7 => some (σ_7 225 j_1, σ_7, τ_6)) else (bd (B_X12_flag_0 N σ_4 τ_4 1) fun r_8 σ_8 τ_8 => nm (up2 σ_8 225 j_1 r_8) fun σ_9 => some (σ_9 225 j_1, σ_9, τ_8)))
set_option maxHeartbeats 4000000 in
set_option maxRecDepth 100000 in
theorem b_X12_playsOut_0 (l : Launch) (S : CallFix P9 m9 C9 cX12_playsOut 2 s av.toArray gx_G RX12) (hr : meth.sig.returnType = (some .int)) (hlk : meth.locks = false) (hK : gx_K E s) (N : Nat) (σ : gI) (τ : gJ) (x1 : Int32) {r : Int32} {σ1 : gI} {τ1 : gJ} (h : B_X12_playsOut_0 N σ τ x1 = some (r, σ1, τ1)) {H : Heap} {locs : List Loc} {ls : Array Slot} (hw : gx_W gx_tb gx_tb.length E s σ τ H locs) (hl : lv_has ls 2 [(0, .ref (E.2.2 + 199)), (1, .int x1)]) : W P9 l e9 (gx_rm 9) s m9 av.toArray below meth C9 H locs 0 0 (gq_Qi below av s E r σ1 τ1) (F0 m9 0 ls []) := by
  have hx := S.1
  have hb := S.2.1
  unfold B_X12_playsOut_0 at h
  refine lv_aload_n hx hb dX12_playsOut_0 rfl (lv_at hl 0 rfl) ?_
  refine gx_getr (j := 225) S hK hw t_199 cl_13 47 (by decide) rfl mw_1461 rfl dX12_playsOut_1 ?_
  refine lv_iload_n hx hb dX12_playsOut_4 rfl (lv_at hl 1 rfl) ?_
  obtain ⟨j_1, hj_1, hi_1, h⟩ := ck_some h
  refine gx_iald S hK hw t_225 j_1 hj_1 hi_1 dX12_playsOut_5 ?_
  refine lv_if_ge (tgt := 52) hx hb dX12_playsOut_6 (by decide) (fun c_2 => ?_) (fun c_2 => ?_)
  · rw [if_pos c_2] at h
    refine lv_aload_n hx hb dX12_playsOut_52 rfl (lv_at hl 0 rfl) ?_
    refine gx_getr (j := 225) S hK hw t_199 cl_13 47 (by decide) rfl mw_1461 rfl dX12_playsOut_53 ?_
    refine lv_iload_n hx hb dX12_playsOut_56 rfl (lv_at hl 1 rfl) ?_
    refine gx_iald S hK hw t_225 j_1 hj_1 hi_1 dX12_playsOut_57 ?_
    obtain ⟨rfl, rfl, rfl⟩ := sm_inj h
    exact gx_ri (post := gq_p (σ 225 j_1) σ τ) (v := σ 225 j_1) S hr hlk hw rfl dX12_playsOut_58 ⟨rfl, rfl, rfl⟩
  · rw [if_neg c_2] at h
    refine lv_aload_n hx hb dX12_playsOut_9 rfl (lv_at hl 0 rfl) ?_
    refine lv_iload_n hx hb dX12_playsOut_10 rfl (lv_at hl 1 rfl) ?_
    refine gx_put S hK gx_ok hw t_199 cl_13 45 (by decide) rfl mw_1459 rfl rfl (ty := .int) (v := x1) (by decide +kernel) rfl rfl dX12_playsOut_11 (fun H locs hw => ?_)
    obtain ⟨σ_3, e_3, h⟩ := nm_some h
    rw [← e_3] at hw
    refine lv_aload_n hx hb dX12_playsOut_14 rfl (lv_at hl 0 rfl) ?_
    refine gx_getr (j := 225) S hK hw t_199 cl_13 47 (by decide) rfl mw_1461 rfl dX12_playsOut_15 ?_
    refine lv_iload_n hx hb dX12_playsOut_18 rfl (lv_at hl 1 rfl) ?_
    refine lv_aload_n hx hb dX12_playsOut_19 rfl (lv_at hl 0 rfl) ?_
    refine lv_aload_n hx hb dX12_playsOut_20 rfl (lv_at hl 0 rfl) ?_
    refine gx_get S hK hw t_199 cl_13 48 (by decide) rfl mw_1462 rfl dX12_playsOut_21 ?_
    refine lv_aload_n hx hb dX12_playsOut_24 rfl (lv_at hl 0 rfl) ?_
    refine gx_get S hK hw t_199 cl_13 49 (by decide) rfl mw_1463 rfl dX12_playsOut_25 ?_
    refine lv_aload_n hx hb dX12_playsOut_28 rfl (lv_at hl 0 rfl) ?_
    refine gx_get S hK hw t_199 cl_13 50 (by decide) rfl mw_1464 rfl dX12_playsOut_29 ?_
    refine lv_iconst (v := 0) hx hb dX12_playsOut_32 (by decide) ?_
    refine lv_aload_n hx hb dX12_playsOut_33 rfl (lv_at hl 0 rfl) ?_
    refine gx_get S hK hw t_199 cl_13 51 (by decide) rfl mw_1465 rfl dX12_playsOut_34 ?_
    obtain ⟨r_4, σ_4, τ_4, q_4, h⟩ := bd_some h
    refine gx_cVi (As := [.int (σ_3 199 48), .int (σ_3 199 49), .int (σ_3 199 50), .int 0, .int (σ_3 199 51)]) (rest := [.int x1, .ref (E.2.2 + 225)]) S hK gx_ok hw (c_X12_sails l (E := E) N σ_3 τ (σ_3 199 48) (σ_3 199 49) (σ_3 199 50) 0 (σ_3 199 51) q_4) cw_X12_412 t_199 cl_13 ⟨Nat.le_of_ble_eq_true rfl, Nat.le_of_ble_eq_true rfl⟩ rfl hl.1 rfl (Nat.le_of_ble_eq_true rfl) ⟨Nat.le_of_ble_eq_true rfl, Nat.le_of_ble_eq_true rfl⟩ dX12_playsOut_37 (fun r9 σ9 τ9 H locs hp hw => ?_)
    obtain ⟨rfl, rfl, rfl⟩ := hp
    refine lv_if_lt (tgt := 47) hx hb dX12_playsOut_40 (by decide) (fun c_5 => ?_) (fun c_5 => ?_)
    · rw [if_pos c_5] at h
      refine lv_iconst (v := 0) hx hb dX12_playsOut_47 (by decide) ?_
      obtain ⟨r_6, σ_6, τ_6, q_6, h⟩ := bd_some h
      refine gx_cSi (As := [.int 0]) (rest := [.int x1, .ref (E.2.2 + 225)]) S hK gx_ok hw (c_X12_flag l (E := E) N σ_4 τ_4 0 q_6) cw_X12_155 ⟨Nat.le_of_ble_eq_true rfl, Nat.le_of_ble_eq_true rfl⟩ rfl hl.1 rfl (Nat.le_of_ble_eq_true rfl) ⟨Nat.le_of_ble_eq_true rfl, Nat.le_of_ble_eq_true rfl⟩ dX12_playsOut_48 (fun r9 σ9 τ9 H locs hp hw => ?_)
      obtain ⟨rfl, rfl, rfl⟩ := hp
      refine gx_iast S hK gx_ok hw t_225 j_1 hj_1 hi_1 dX12_playsOut_51 (fun H locs hw => ?_)
      obtain ⟨σ_7, e_7, h⟩ := nm_some h
      rw [← e_7] at hw
      refine lv_aload_n hx hb dX12_playsOut_52 rfl (lv_at hl 0 rfl) ?_
      refine gx_getr (j := 225) S hK hw t_199 cl_13 47 (by decide) rfl mw_1461 rfl dX12_playsOut_53 ?_
      refine lv_iload_n hx hb dX12_playsOut_56 rfl (lv_at hl 1 rfl) ?_
      refine gx_iald S hK hw t_225 j_1 hj_1 hi_1 dX12_playsOut_57 ?_
      obtain ⟨rfl, rfl, rfl⟩ := sm_inj h
      exact gx_ri (post := gq_p (σ_7 225 j_1) σ_7 τ_6) (v := σ_7 225 j_1) S hr hlk hw rfl dX12_playsOut_58 ⟨rfl, rfl, rfl⟩
    · rw [if_neg c_5] at h
      refine lv_iconst (v := 1) hx hb dX12_playsOut_43 (by decide) ?_
      refine lv_goto (tgt := 48) hx hb dX12_playsOut_44 (by decide) ?_
      obtain ⟨r_8, σ_8, τ_8, q_8, h⟩ := bd_some h
      refine gx_cSi (As := [.int 1]) (rest := [.int x1, .ref (E.2.2 + 225)]) S hK gx_ok hw (c_X12_flag l (E := E) N σ_4 τ_4 1 q_8) cw_X12_155 ⟨Nat.le_of_ble_eq_true rfl, Nat.le_of_ble_eq_true rfl⟩ rfl hl.1 rfl (Nat.le_of_ble_eq_true rfl) ⟨Nat.le_of_ble_eq_true rfl, Nat.le_of_ble_eq_true rfl⟩ dX12_playsOut_48 (fun r9 σ9 τ9 H locs hp hw => ?_)
      obtain ⟨rfl, rfl, rfl⟩ := hp
      refine gx_iast S hK gx_ok hw t_225 j_1 hj_1 hi_1 dX12_playsOut_51 (fun H locs hw => ?_)
      obtain ⟨σ_9, e_9, h⟩ := nm_some h
      rw [← e_9] at hw
      refine lv_aload_n hx hb dX12_playsOut_52 rfl (lv_at hl 0 rfl) ?_
      refine gx_getr (j := 225) S hK hw t_199 cl_13 47 (by decide) rfl mw_1461 rfl dX12_playsOut_53 ?_
      refine lv_iload_n hx hb dX12_playsOut_56 rfl (lv_at hl 1 rfl) ?_
      refine gx_iald S hK hw t_225 j_1 hj_1 hi_1 dX12_playsOut_57 ?_
      obtain ⟨rfl, rfl, rfl⟩ := sm_inj h
      exact gx_ri (post := gq_p (σ_9 225 j_1) σ_9 τ_8) (v := σ_9 225 j_1) S hr hlk hw rfl dX12_playsOut_58 ⟨rfl, rfl, rfl⟩
set_option maxHeartbeats 4000000 in
set_option maxRecDepth 100000 in
theorem c_X12_playsOut (l : Launch) {E : gE} (N : Nat) (σ : gI) (τ : gJ) (x1 : Int32) {r : Int32} {σ1 : gI} {τ1 : gJ} (h : B_X12_playsOut_0 N σ τ x1 = some (r, σ1, τ1)) : gx_Mi l yX12_playsOut cX12_playsOut 2 (some .int) 9 gx_tb E σ τ [.ref (E.2.2 + 199), .int x1] (gq_p r σ1 τ1) := by
  refine gx_bi (by decide +kernel) (Nat.le_of_ble_eq_true rfl) ?_
  intro P9 e9 s m9 below meth C9 S hr hlk hK hw ls hl
  have hl : lv_has ls 2 [(0, .ref (E.2.2 + 199)), (1, .int x1)] := hl
  exact b_X12_playsOut_0 l S hr hlk hK N σ τ x1 h hw hl
/-! X12_plays -/
def C_X12_plays_39 (me_plays : gI → gJ → Int32 → Int32 → Int32 → Option (Int32 × gI × gJ)) (N : Nat) (rec_39 : gI → gJ → Int32 → Int32 → Int32 → Int32 → Int32 → Int32 → Option (Int32 × gI × gJ)) (σ : gI) (τ : gJ) (x1 : Int32) (x2 : Int32) (x3 : Int32) (x4 : Int32) (x5 : Int32) (x6 : Int32) : Option (Int32 × gI × gJ) := if σ 199 3 ≤ x6 then (some (x5, σ, τ)) else (ck x6 12 fun j_2 => if σ 201 j_2 = 1 then (bd (me_plays σ τ (x1 ^^^ (1 <<< (x6 &&& 31))) (x2 - 1) x3) fun r_5 σ_5 τ_5 => if x4 = 0 then (nm (imin x5 r_5) fun v_7 => nm (x6 + 1) fun v_8 => rec_39 σ_5 τ_5 x1 x2 x3 x4 v_7 v_8) else (nm (imax x5 r_5) fun v_9 => nm (x6 + 1) fun v_10 => rec_39 σ_5 τ_5 x1 x2 x3 x4 v_9 v_10)) else (nm (x6 + 1) fun v_4 => rec_39 σ τ x1 x2 x3 x4 x5 v_4))
def H_X12_plays_39 (me_plays : gI → gJ → Int32 → Int32 → Int32 → Option (Int32 × gI × gJ)) (N : Nat) : Nat → gI → gJ → Int32 → Int32 → Int32 → Int32 → Int32 → Int32 → Option (Int32 × gI × gJ) := itn (fun rec_39 => C_X12_plays_39 me_plays N rec_39) (fun _ _ _ _ _ _ _ _ => none)
def B_X12_plays_23 (me_plays : gI → gJ → Int32 → Int32 → Int32 → Option (Int32 × gI × gJ)) (N : Nat) (σ : gI) (τ : gJ) (x1 : Int32) (x2 : Int32) (x3 : Int32) (y0 : Int32) : Option (Int32 × gI × gJ) := bd (me_plays σ τ x1 (x2 - 1) x3) fun r_1 σ_1 τ_1 => H_X12_plays_39 me_plays N N σ_1 τ_1 x1 x2 x3 y0 r_1 0
def B_X12_plays_0 (me_plays : gI → gJ → Int32 → Int32 → Int32 → Option (Int32 × gI × gJ)) (N : Nat) (σ : gI) (τ : gJ) (x1 : Int32) (x2 : Int32) (x3 : Int32) : Option (Int32 × gI × gJ) := if x2 = 0 then (bd (B_X12_playsOut_0 N σ τ x1) fun r_3 σ_3 τ_3 => some (r_3, σ_3, τ_3)) else (if (x3 - x2) - (x3 - x2) / 2 * 2 = 0 then (B_X12_plays_23 me_plays N σ τ x1 x2 x3 1) else (B_X12_plays_23 me_plays N σ τ x1 x2 x3 0))
def R_X12_plays (N D : Nat) : gI → gJ → Int32 → Int32 → Int32 → Option (Int32 × gI × gJ) := itn (fun me_plays => B_X12_plays_0 me_plays N) (fun _ _ _ _ _ => none) D
set_option maxHeartbeats 4000000 in
set_option maxRecDepth 100000 in
theorem k_X12_plays_39 (l : Launch) (dd : Nat) (me_plays : gI → gJ → Int32 → Int32 → Int32 → Option (Int32 × gI × gJ)) (hme_plays : ∀ (σ : gI) (τ : gJ) (x1 : Int32) (x2 : Int32) (x3 : Int32) (r : Int32) (σ1 : gI) (τ1 : gJ), me_plays σ τ x1 x2 x3 = some (r, σ1, τ1) → gx_Mi l yX12_plays cX12_plays 8 (some .int) (dd) gx_tb E σ τ [.ref (E.2.2 + 199), .int x1, .int x2, .int x3] (gq_p r σ1 τ1)) (S : CallFix P9 m9 C9 cX12_plays 8 s av.toArray gx_G RX12) (hr : meth.sig.returnType = (some .int)) (hlk : meth.locks = false) (hK : gx_K E s) (N : Nat) (rec_39 : gI → gJ → Int32 → Int32 → Int32 → Int32 → Int32 → Int32 → Option (Int32 × gI × gJ)) (hrec_39 : ∀ (σ : gI) (τ : gJ) (x1 : Int32) (x2 : Int32) (x3 : Int32) (x4 : Int32) (x5 : Int32) (x6 : Int32) (r : Int32) (σ1 : gI) (τ1 : gJ) (H : Heap) (locs : List Loc) (ls : Array Slot), rec_39 σ τ x1 x2 x3 x4 x5 x6 = some (r, σ1, τ1) → gx_W gx_tb gx_tb.length E s σ τ H locs → lv_has ls 8 [(0, .ref (E.2.2 + 199)), (1, .int x1), (2, .int x2), (3, .int x3), (4, .int x4), (5, .int x5), (6, .int x6)] → W P9 l e9 (gx_rm (dd + 10)) s m9 av.toArray below meth C9 H locs 0 0 (gq_Qi below av s E r σ1 τ1) (F0 m9 39 ls [])) (σ : gI) (τ : gJ) (x1 : Int32) (x2 : Int32) (x3 : Int32) (x4 : Int32) (x5 : Int32) (x6 : Int32) {r : Int32} {σ1 : gI} {τ1 : gJ} (h : C_X12_plays_39 me_plays N rec_39 σ τ x1 x2 x3 x4 x5 x6 = some (r, σ1, τ1)) {H : Heap} {locs : List Loc} {ls : Array Slot} (hw : gx_W gx_tb gx_tb.length E s σ τ H locs) (hl : lv_has ls 8 [(0, .ref (E.2.2 + 199)), (1, .int x1), (2, .int x2), (3, .int x3), (4, .int x4), (5, .int x5), (6, .int x6)]) : W P9 l e9 (gx_rm (dd + 10)) s m9 av.toArray below meth C9 H locs 0 0 (gq_Qi below av s E r σ1 τ1) (F0 m9 39 ls []) := by
  have hx := S.1
  have hb := S.2.1
  unfold C_X12_plays_39 at h
  refine lv_iload hx hb dX12_plays_39 (lv_at hl 6 rfl) ?_
  refine lv_aload_n hx hb dX12_plays_41 rfl (lv_at hl 0 rfl) ?_
  refine gx_get S hK hw t_199 cl_13 3 (by decide) rfl mw_1417 rfl dX12_plays_42 ?_
  refine lv_icmp_ge (tgt := 105) hx hb dX12_plays_45 (by decide) (fun c_1 => ?_) (fun c_1 => ?_)
  · rw [if_pos c_1] at h
    refine lv_iload hx hb dX12_plays_105 (lv_at hl 5 rfl) ?_
    obtain ⟨rfl, rfl, rfl⟩ := sm_inj h
    exact gx_ri (post := gq_p x5 σ τ) (v := x5) S hr hlk hw rfl dX12_plays_107 ⟨rfl, rfl, rfl⟩
  · rw [if_neg c_1] at h
    refine lv_aload_n hx hb dX12_plays_48 rfl (lv_at hl 0 rfl) ?_
    refine gx_getr (j := 201) S hK hw t_199 cl_13 5 (by decide) rfl mw_1419 rfl dX12_plays_49 ?_
    refine lv_iload hx hb dX12_plays_52 (lv_at hl 6 rfl) ?_
    obtain ⟨j_2, hj_2, hi_2, h⟩ := ck_some h
    refine gx_iald S hK hw t_201 j_2 hj_2 hi_2 dX12_plays_54 ?_
    refine lv_iconst (v := 1) hx hb dX12_plays_55 (by decide) ?_
    refine lv_icmp_ne (tgt := 99) hx hb dX12_plays_56 (by decide) (fun c_3 => ?_) (fun c_3 => ?_)
    · rw [if_neg c_3] at h
      refine lv_iinc (v := x6 + 1) (lv' := [(6, .int (x6 + 1)), (0, .ref (E.2.2 + 199)), (1, .int x1), (2, .int x2), (3, .int x3), (4, .int x4), (5, .int x5)]) hx hb dX12_plays_99 hl (k := 6) rfl rfl (by decide) rfl (fun ls hl => ?_)
      obtain ⟨v_4, e_4, h⟩ := nm_some h
      have hl : lv_has ls 8 [(6, .int v_4), (0, .ref (E.2.2 + 199)), (1, .int x1), (2, .int x2), (3, .int x3), (4, .int x4), (5, .int x5)] := by rw [e_4]; exact hl
      refine lv_goto (tgt := 39) hx hb dX12_plays_102 (by decide) ?_
      exact hrec_39 σ τ x1 x2 x3 x4 x5 v_4 _ _ _ _ _ _ h hw (lv_sub hl [1, 2, 3, 4, 5, 6, 0] rfl)
    · rw [if_pos c_3] at h
      refine lv_aload_n hx hb dX12_plays_59 rfl (lv_at hl 0 rfl) ?_
      refine lv_iload_n hx hb dX12_plays_60 rfl (lv_at hl 1 rfl) ?_
      refine lv_iconst (v := 1) hx hb dX12_plays_61 (by decide) ?_
      refine lv_iload hx hb dX12_plays_62 (lv_at hl 6 rfl) ?_
      refine lv_ishl hx hb dX12_plays_64 ?_
      refine lv_ixor hx hb dX12_plays_65 ?_
      refine lv_iload_n hx hb dX12_plays_66 rfl (lv_at hl 2 rfl) ?_
      refine lv_iconst (v := 1) hx hb dX12_plays_67 (by decide) ?_
      refine lv_isub hx hb dX12_plays_68 ?_
      refine lv_iload_n hx hb dX12_plays_69 rfl (lv_at hl 3 rfl) ?_
      obtain ⟨r_5, σ_5, τ_5, q_5, h⟩ := bd_some h
      refine gx_cVi (As := [.int (x1 ^^^ (1 <<< (x6 &&& 31))), .int (x2 - 1), .int x3]) (rest := []) S hK gx_ok hw (hme_plays σ τ (x1 ^^^ (1 <<< (x6 &&& 31))) (x2 - 1) x3 _ _ _ q_5) cw_X12_440 t_199 cl_13 (gw_ok (by omega) (by omega)) rfl hl.1 rfl (Nat.le_of_ble_eq_true rfl) ⟨Nat.le_of_ble_eq_true rfl, Nat.le_of_ble_eq_true rfl⟩ dX12_plays_70 (fun r9 σ9 τ9 H locs hp hw => ?_)
      obtain ⟨rfl, rfl, rfl⟩ := hp
      refine lv_istore (lv' := [(7, .int r_5), (0, .ref (E.2.2 + 199)), (1, .int x1), (2, .int x2), (3, .int x3), (4, .int x4), (5, .int x5), (6, .int x6)]) hx hb dX12_plays_73 hl (by decide) rfl (fun ls hl => ?_)
      refine lv_iload hx hb dX12_plays_75 (lv_at hl 5 rfl) ?_
      refine lv_if_eq (tgt := 90) hx hb dX12_plays_77 (by decide) (fun c_6 => ?_) (fun c_6 => ?_)
      · rw [if_pos c_6] at h
        refine lv_iload hx hb dX12_plays_90 (lv_at hl 6 rfl) ?_
        refine lv_iload hx hb dX12_plays_92 (lv_at hl 0 rfl) ?_
        refine gx_min (w := imin x5 r_5) S hl.1 mw_1614 mw_529 mw_102 mw_530 (gw_m (by omega) (by simp [Value.category]; omega)) ⟨Nat.le_of_ble_eq_true rfl, Nat.le_of_ble_eq_true rfl⟩ dX12_plays_94 rfl ?_
        refine lv_istore (lv' := [(5, .int (imin x5 r_5)), (7, .int r_5), (0, .ref (E.2.2 + 199)), (1, .int x1), (2, .int x2), (3, .int x3), (4, .int x4), (6, .int x6)]) hx hb dX12_plays_97 hl (by decide) rfl (fun ls hl => ?_)
        obtain ⟨v_7, e_7, h⟩ := nm_some h
        have hl : lv_has ls 8 [(5, .int v_7), (7, .int r_5), (0, .ref (E.2.2 + 199)), (1, .int x1), (2, .int x2), (3, .int x3), (4, .int x4), (6, .int x6)] := by rw [e_7]; exact hl
        refine lv_iinc (v := x6 + 1) (lv' := [(6, .int (x6 + 1)), (5, .int v_7), (7, .int r_5), (0, .ref (E.2.2 + 199)), (1, .int x1), (2, .int x2), (3, .int x3), (4, .int x4)]) hx hb dX12_plays_99 hl (k := 7) rfl rfl (by decide) rfl (fun ls hl => ?_)
        obtain ⟨v_8, e_8, h⟩ := nm_some h
        have hl : lv_has ls 8 [(6, .int v_8), (5, .int v_7), (7, .int r_5), (0, .ref (E.2.2 + 199)), (1, .int x1), (2, .int x2), (3, .int x3), (4, .int x4)] := by rw [e_8]; exact hl
        refine lv_goto (tgt := 39) hx hb dX12_plays_102 (by decide) ?_
        exact hrec_39 σ_5 τ_5 x1 x2 x3 x4 v_7 v_8 _ _ _ _ _ _ h hw (lv_sub hl [3, 4, 5, 6, 7, 1, 0] rfl)
      · rw [if_neg c_6] at h
        refine lv_iload hx hb dX12_plays_80 (lv_at hl 6 rfl) ?_
        refine lv_iload hx hb dX12_plays_82 (lv_at hl 0 rfl) ?_
        refine gx_max (w := imax x5 r_5) S hl.1 mw_1803 mw_577 mw_102 mw_578 (gw_m (by omega) (by simp [Value.category]; omega)) ⟨Nat.le_of_ble_eq_true rfl, Nat.le_of_ble_eq_true rfl⟩ dX12_plays_84 rfl ?_
        refine lv_goto (tgt := 97) hx hb dX12_plays_87 (by decide) ?_
        refine lv_istore (lv' := [(5, .int (imax x5 r_5)), (7, .int r_5), (0, .ref (E.2.2 + 199)), (1, .int x1), (2, .int x2), (3, .int x3), (4, .int x4), (6, .int x6)]) hx hb dX12_plays_97 hl (by decide) rfl (fun ls hl => ?_)
        obtain ⟨v_9, e_9, h⟩ := nm_some h
        have hl : lv_has ls 8 [(5, .int v_9), (7, .int r_5), (0, .ref (E.2.2 + 199)), (1, .int x1), (2, .int x2), (3, .int x3), (4, .int x4), (6, .int x6)] := by rw [e_9]; exact hl
        refine lv_iinc (v := x6 + 1) (lv' := [(6, .int (x6 + 1)), (5, .int v_9), (7, .int r_5), (0, .ref (E.2.2 + 199)), (1, .int x1), (2, .int x2), (3, .int x3), (4, .int x4)]) hx hb dX12_plays_99 hl (k := 7) rfl rfl (by decide) rfl (fun ls hl => ?_)
        obtain ⟨v_10, e_10, h⟩ := nm_some h
        have hl : lv_has ls 8 [(6, .int v_10), (5, .int v_9), (7, .int r_5), (0, .ref (E.2.2 + 199)), (1, .int x1), (2, .int x2), (3, .int x3), (4, .int x4)] := by rw [e_10]; exact hl
        refine lv_goto (tgt := 39) hx hb dX12_plays_102 (by decide) ?_
        exact hrec_39 σ_5 τ_5 x1 x2 x3 x4 v_9 v_10 _ _ _ _ _ _ h hw (lv_sub hl [3, 4, 5, 6, 7, 1, 0] rfl)
set_option maxHeartbeats 4000000 in
set_option maxRecDepth 100000 in
theorem h_X12_plays_39 (l : Launch) (dd : Nat) (me_plays : gI → gJ → Int32 → Int32 → Int32 → Option (Int32 × gI × gJ)) (hme_plays : ∀ (σ : gI) (τ : gJ) (x1 : Int32) (x2 : Int32) (x3 : Int32) (r : Int32) (σ1 : gI) (τ1 : gJ), me_plays σ τ x1 x2 x3 = some (r, σ1, τ1) → gx_Mi l yX12_plays cX12_plays 8 (some .int) (dd) gx_tb E σ τ [.ref (E.2.2 + 199), .int x1, .int x2, .int x3] (gq_p r σ1 τ1)) (S : CallFix P9 m9 C9 cX12_plays 8 s av.toArray gx_G RX12) (hr : meth.sig.returnType = (some .int)) (hlk : meth.locks = false) (hK : gx_K E s) (N : Nat) : ∀ (n : Nat) (σ : gI) (τ : gJ) (x1 : Int32) (x2 : Int32) (x3 : Int32) (x4 : Int32) (x5 : Int32) (x6 : Int32) (r : Int32) (σ1 : gI) (τ1 : gJ), H_X12_plays_39 me_plays N n σ τ x1 x2 x3 x4 x5 x6 = some (r, σ1, τ1) → ∀ (H : Heap) (locs : List Loc) (ls : Array Slot), gx_W gx_tb gx_tb.length E s σ τ H locs → lv_has ls 8 [(0, .ref (E.2.2 + 199)), (1, .int x1), (2, .int x2), (3, .int x3), (4, .int x4), (5, .int x5), (6, .int x6)] → W P9 l e9 (gx_rm (dd + 10)) s m9 av.toArray below meth C9 H locs 0 0 (gq_Qi below av s E r σ1 τ1) (F0 m9 39 ls []) := by
  intro n
  induction n with
  | zero => intro σ τ x1 x2 x3 x4 x5 x6 r σ1 τ1 h; cases h
  | succ n ih =>
    intro σ τ x1 x2 x3 x4 x5 x6 r σ1 τ1 h H locs ls hw hl
    exact k_X12_plays_39 l dd me_plays hme_plays S hr hlk hK N (H_X12_plays_39 me_plays N n) (fun σ τ x1 x2 x3 x4 x5 x6 r σ1 τ1 H locs ls h hw hl => ih σ τ x1 x2 x3 x4 x5 x6 r σ1 τ1 h H locs ls hw hl) σ τ x1 x2 x3 x4 x5 x6 h hw hl
set_option maxHeartbeats 4000000 in
set_option maxRecDepth 100000 in
theorem b_X12_plays_23 (l : Launch) (dd : Nat) (me_plays : gI → gJ → Int32 → Int32 → Int32 → Option (Int32 × gI × gJ)) (hme_plays : ∀ (σ : gI) (τ : gJ) (x1 : Int32) (x2 : Int32) (x3 : Int32) (r : Int32) (σ1 : gI) (τ1 : gJ), me_plays σ τ x1 x2 x3 = some (r, σ1, τ1) → gx_Mi l yX12_plays cX12_plays 8 (some .int) (dd) gx_tb E σ τ [.ref (E.2.2 + 199), .int x1, .int x2, .int x3] (gq_p r σ1 τ1)) (S : CallFix P9 m9 C9 cX12_plays 8 s av.toArray gx_G RX12) (hr : meth.sig.returnType = (some .int)) (hlk : meth.locks = false) (hK : gx_K E s) (N : Nat) (σ : gI) (τ : gJ) (x1 : Int32) (x2 : Int32) (x3 : Int32) (y0 : Int32) {r : Int32} {σ1 : gI} {τ1 : gJ} (h : B_X12_plays_23 me_plays N σ τ x1 x2 x3 y0 = some (r, σ1, τ1)) {H : Heap} {locs : List Loc} {ls : Array Slot} (hw : gx_W gx_tb gx_tb.length E s σ τ H locs) (hl : lv_has ls 8 [(0, .ref (E.2.2 + 199)), (1, .int x1), (2, .int x2), (3, .int x3)]) : W P9 l e9 (gx_rm (dd + 10)) s m9 av.toArray below meth C9 H locs 0 0 (gq_Qi below av s E r σ1 τ1) (F0 m9 23 ls [.int y0]) := by
  have hx := S.1
  have hb := S.2.1
  unfold B_X12_plays_23 at h
  refine lv_istore (lv' := [(4, .int y0), (0, .ref (E.2.2 + 199)), (1, .int x1), (2, .int x2), (3, .int x3)]) hx hb dX12_plays_23 hl (by decide) rfl (fun ls hl => ?_)
  refine lv_aload_n hx hb dX12_plays_25 rfl (lv_at hl 1 rfl) ?_
  refine lv_iload_n hx hb dX12_plays_26 rfl (lv_at hl 2 rfl) ?_
  refine lv_iload_n hx hb dX12_plays_27 rfl (lv_at hl 3 rfl) ?_
  refine lv_iconst (v := 1) hx hb dX12_plays_28 (by decide) ?_
  refine lv_isub hx hb dX12_plays_29 ?_
  refine lv_iload_n hx hb dX12_plays_30 rfl (lv_at hl 4 rfl) ?_
  obtain ⟨r_1, σ_1, τ_1, q_1, h⟩ := bd_some h
  refine gx_cVi (As := [.int x1, .int (x2 - 1), .int x3]) (rest := []) S hK gx_ok hw (hme_plays σ τ x1 (x2 - 1) x3 _ _ _ q_1) cw_X12_440 t_199 cl_13 (gw_ok (by omega) (by omega)) rfl hl.1 rfl (Nat.le_of_ble_eq_true rfl) ⟨Nat.le_of_ble_eq_true rfl, Nat.le_of_ble_eq_true rfl⟩ dX12_plays_31 (fun r9 σ9 τ9 H locs hp hw => ?_)
  obtain ⟨rfl, rfl, rfl⟩ := hp
  refine lv_istore (lv' := [(5, .int r_1), (4, .int y0), (0, .ref (E.2.2 + 199)), (1, .int x1), (2, .int x2), (3, .int x3)]) hx hb dX12_plays_34 hl (by decide) rfl (fun ls hl => ?_)
  refine lv_iconst (v := 0) hx hb dX12_plays_36 (by decide) ?_
  refine lv_istore (lv' := [(6, .int 0), (5, .int r_1), (4, .int y0), (0, .ref (E.2.2 + 199)), (1, .int x1), (2, .int x2), (3, .int x3)]) hx hb dX12_plays_37 hl (by decide) rfl (fun ls hl => ?_)
  exact h_X12_plays_39 l dd me_plays hme_plays S hr hlk hK N N σ_1 τ_1 x1 x2 x3 y0 r_1 0 _ _ _ h _ _ _ hw (lv_sub hl [3, 4, 5, 6, 2, 1, 0] rfl)
set_option maxHeartbeats 4000000 in
set_option maxRecDepth 100000 in
theorem b_X12_plays_0 (l : Launch) (dd : Nat) (me_plays : gI → gJ → Int32 → Int32 → Int32 → Option (Int32 × gI × gJ)) (hme_plays : ∀ (σ : gI) (τ : gJ) (x1 : Int32) (x2 : Int32) (x3 : Int32) (r : Int32) (σ1 : gI) (τ1 : gJ), me_plays σ τ x1 x2 x3 = some (r, σ1, τ1) → gx_Mi l yX12_plays cX12_plays 8 (some .int) (dd) gx_tb E σ τ [.ref (E.2.2 + 199), .int x1, .int x2, .int x3] (gq_p r σ1 τ1)) (S : CallFix P9 m9 C9 cX12_plays 8 s av.toArray gx_G RX12) (hr : meth.sig.returnType = (some .int)) (hlk : meth.locks = false) (hK : gx_K E s) (N : Nat) (σ : gI) (τ : gJ) (x1 : Int32) (x2 : Int32) (x3 : Int32) {r : Int32} {σ1 : gI} {τ1 : gJ} (h : B_X12_plays_0 me_plays N σ τ x1 x2 x3 = some (r, σ1, τ1)) {H : Heap} {locs : List Loc} {ls : Array Slot} (hw : gx_W gx_tb gx_tb.length E s σ τ H locs) (hl : lv_has ls 8 [(0, .ref (E.2.2 + 199)), (1, .int x1), (2, .int x2), (3, .int x3)]) : W P9 l e9 (gx_rm (dd + 10)) s m9 av.toArray below meth C9 H locs 0 0 (gq_Qi below av s E r σ1 τ1) (F0 m9 0 ls []) := by
  have hx := S.1
  have hb := S.2.1
  unfold B_X12_plays_0 at h
  refine lv_iload_n hx hb dX12_plays_0 rfl (lv_at hl 2 rfl) ?_
  refine lv_if_ne (tgt := 10) hx hb dX12_plays_1 (by decide) (fun c_1 => ?_) (fun c_1 => ?_)
  · rw [if_neg c_1] at h
    refine lv_iload_n hx hb dX12_plays_10 rfl (lv_at hl 3 rfl) ?_
    refine lv_iload_n hx hb dX12_plays_11 rfl (lv_at hl 2 rfl) ?_
    refine lv_isub hx hb dX12_plays_12 ?_
    refine lv_iconst (v := 2) hx hb dX12_plays_13 (by decide) ?_
    refine lv_irem hx hb dX12_plays_14 (by decide) ?_
    refine lv_if_ne (tgt := 22) hx hb dX12_plays_15 (by decide) (fun c_2 => ?_) (fun c_2 => ?_)
    · rw [if_neg c_2] at h
      refine lv_iconst (v := 0) hx hb dX12_plays_22 (by decide) ?_
      exact b_X12_plays_23 l dd me_plays hme_plays S hr hlk hK N σ τ x1 x2 x3 0 h hw (lv_sub hl [0, 1, 2, 3] rfl)
    · rw [if_pos c_2] at h
      refine lv_iconst (v := 1) hx hb dX12_plays_18 (by decide) ?_
      refine lv_goto (tgt := 23) hx hb dX12_plays_19 (by decide) ?_
      exact b_X12_plays_23 l dd me_plays hme_plays S hr hlk hK N σ τ x1 x2 x3 1 h hw (lv_sub hl [0, 1, 2, 3] rfl)
  · rw [if_pos c_1] at h
    refine lv_aload_n hx hb dX12_plays_4 rfl (lv_at hl 0 rfl) ?_
    refine lv_iload_n hx hb dX12_plays_5 rfl (lv_at hl 1 rfl) ?_
    obtain ⟨r_3, σ_3, τ_3, q_3, h⟩ := bd_some h
    refine gx_cVi (As := [.int x1]) (rest := []) S hK gx_ok hw (c_X12_playsOut l (E := E) N σ τ x1 q_3) cw_X12_437 t_199 cl_13 (gw_ok (by omega) (by omega)) rfl hl.1 rfl (Nat.le_of_ble_eq_true rfl) ⟨Nat.le_of_ble_eq_true rfl, Nat.le_of_ble_eq_true rfl⟩ dX12_plays_6 (fun r9 σ9 τ9 H locs hp hw => ?_)
    obtain ⟨rfl, rfl, rfl⟩ := hp
    obtain ⟨rfl, rfl, rfl⟩ := sm_inj h
    exact gx_ri (post := gq_p r_3 σ_3 τ_3) (v := r_3) S hr hlk hw rfl dX12_plays_9 ⟨rfl, rfl, rfl⟩
set_option maxHeartbeats 4000000 in
set_option maxRecDepth 100000 in
theorem c_X12_plays (l : Launch) {E : gE} (N : Nat) : ∀ D : Nat, (∀ (σ : gI) (τ : gJ) (x1 : Int32) (x2 : Int32) (x3 : Int32) (r : Int32) (σ1 : gI) (τ1 : gJ), (R_X12_plays N D) σ τ x1 x2 x3 = some (r, σ1, τ1) → gx_Mi l yX12_plays cX12_plays 8 (some .int) (10 * D) gx_tb E σ τ [.ref (E.2.2 + 199), .int x1, .int x2, .int x3] (gq_p r σ1 τ1)) := by
  intro D
  induction D with
  | zero => exact fun σ τ x1 x2 x3 r σ1 τ1 h => (by cases h)
  | succ D ih =>
    intro σ τ x1 x2 x3 r σ1 τ1 h
    refine gx_bi (by decide +kernel) (Nat.le_of_ble_eq_true rfl) ?_
    intro P9 e9 s m9 below meth C9 S hr hlk hK hw ls hl
    have hl : lv_has ls 8 [(0, .ref (E.2.2 + 199)), (1, .int x1), (2, .int x2), (3, .int x3)] := hl
    exact b_X12_plays_0 l (10 * D) ((R_X12_plays N D)) (fun σ τ x1 x2 x3 r σ1 τ1 h => ih σ τ x1 x2 x3 r σ1 τ1 h) S hr hlk hK N σ τ x1 x2 x3 h hw hl
end F6
