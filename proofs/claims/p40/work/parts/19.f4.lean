def sb_0 : List Int32 := [103, 100, 102, 114, 109, 105, 107]
theorem zk_0 : gx_ss[0]? = some (RX8, 65, "gdfrmik", sb_0) := rfl
def sb_1 : List Int32 := [112, 109, 119, 105, 98, 99, 110, 102]
theorem zk_1 : gx_ss[1]? = some (RX5, 75, "pmwibcnf", sb_1) := rfl
def sb_2 : List Int32 := [43, 45, 42, 47, 60, 62, 61]
theorem zk_2 : gx_ss[2]? = some (RX5, 101, "+-*/<>=", sb_2) := rfl
section F4
variable {a9 v9 : Nat} {w9 : Value} {P9 : Program} {e9 : Env} {s : State} {m9 : MethodId} {below : List Frame} {meth : Method} {C9 : Code} {E : gE} {av : List Value}
/-! X5_takeThing -/
def B_X5_takeThing_0 (N : Nat) (σ : gI) (τ : gJ) (x2 : Int32) : Option (Int32 × gI × gJ) := bd (B_X7_oneOf_0 N sb_1 σ τ x2) fun r_1 σ_1 τ_1 => bd (B_X7_digit_0 N σ_1 τ_1 x2) fun r_2 σ_2 τ_2 => if r_1 < 0 then (if r_2 < 0 then (bd (B_X7_hasSign_0 N σ_2 τ_2 x2 45) fun r_5 σ_5 τ_5 => if r_5 = 0 then (bd (B_X7_hasSign_0 N σ_5 τ_5 x2 40) fun r_7 σ_7 τ_7 => if r_7 = 0 then (some (0, σ_7, τ_7)) else (if 4 ≤ σ_7 21 5 then (some (0, σ_7, τ_7)) else (nm (up2 σ_7 21 5 ((σ_7 21 5) + 1)) fun σ_10 => nm (up2 σ_10 21 6 ((σ_10 21 6) &&& ((1 <<< ((σ_10 21 5) &&& 31)) ^^^ (-1)))) fun σ_11 => bd (B_X5_hold_0 N σ_11 τ_7 16) fun _ σ_12 τ_12 => some (1, σ_12, τ_12)))) else (bd (B_X5_hold_0 N σ_5 τ_5 8) fun _ σ_13 τ_13 => some (1, σ_13, τ_13))) else (bd (B_X5_addStep_0 N σ_2 τ_2 (32 + r_2)) fun _ σ_14 τ_14 => nm (up2 σ_14 21 7 1) fun σ_15 => nm (up2 σ_15 21 8 0) fun σ_16 => some (1, σ_16, τ_14))) else (bd (B_X5_addFact_0 N σ_2 τ_2 r_1) fun _ σ_17 τ_17 => some (1, σ_17, τ_17))
set_option maxHeartbeats 4000000 in
set_option maxRecDepth 100000 in
theorem b_X5_takeThing_0 (l : Launch) (S : CallFix P9 m9 C9 cX5_takeThing 5 s av.toArray gx_G RX5) (hr : meth.sig.returnType = (some .boolean)) (hlk : meth.locks = false) (hK : gx_K E s) (N : Nat) (σ : gI) (τ : gJ) (x2 : Int32) {r : Int32} {σ1 : gI} {τ1 : gJ} (h : B_X5_takeThing_0 N σ τ x2 = some (r, σ1, τ1)) {H : Heap} {locs : List Loc} {ls : Array Slot} (hw : gx_W gx_tb gx_tb.length E s σ τ H locs) (hl : lv_has ls 5 [(0, .ref (E.2.2 + 21)), (1, .ref (E.2.2 + 1)), (2, .int x2)]) : W P9 l e9 (gx_rm 5) s m9 av.toArray below meth C9 H locs 0 0 (gq_Qi below av s E r σ1 τ1) (F0 m9 0 ls []) := by
  have hx := S.1
  have hb := S.2.1
  unfold B_X5_takeThing_0 at h
  refine lv_aload_n hx hb dX5_takeThing_0 rfl (lv_at hl 1 rfl) ?_
  refine gx_lds S hK ss_1 rfl dX5_takeThing_1 ?_
  refine lv_iload_n hx hb dX5_takeThing_3 rfl (lv_at hl 2 rfl) ?_
  obtain ⟨r_1, σ_1, τ_1, q_1, h⟩ := bd_some h
  refine zs_V (As := [.ref (E.1.2.1 1), .int x2]) (rest := []) S hK hw (zs_k hK hw zk_1) (c_X7_oneOf l (E := E) N sb_1 σ τ x2 q_1) rfl cw_X5_77 (va_recv hK.1 hw.1 cl_8.1 (gx_at t_1)) ⟨Nat.le_of_ble_eq_true rfl, Nat.le_of_ble_eq_true rfl⟩ rfl hl.1 rfl (Nat.le_of_ble_eq_true rfl) ⟨Nat.le_of_ble_eq_true rfl, Nat.le_of_ble_eq_true rfl⟩ dX5_takeThing_4 (fun r9 σ9 τ9 H locs hp hw => ?_)
  obtain ⟨rfl, rfl, rfl⟩ := hp
  refine lv_istore_n (lv' := [(3, .int r_1), (0, .ref (E.2.2 + 21)), (1, .ref (E.2.2 + 1)), (2, .int x2)]) hx hb dX5_takeThing_7 rfl hl (by decide) rfl (fun ls hl => ?_)
  refine lv_aload_n hx hb dX5_takeThing_8 rfl (lv_at hl 2 rfl) ?_
  refine lv_iload_n hx hb dX5_takeThing_9 rfl (lv_at hl 3 rfl) ?_
  obtain ⟨r_2, σ_2, τ_2, q_2, h⟩ := bd_some h
  refine gx_cVi (As := [.int x2]) (rest := []) S hK gx_ok hw (c_X7_digit l (E := E) N σ_1 τ_1 x2 q_2) cw_X5_81 t_1 cl_8 ⟨Nat.le_of_ble_eq_true rfl, Nat.le_of_ble_eq_true rfl⟩ rfl hl.1 rfl (Nat.le_of_ble_eq_true rfl) ⟨Nat.le_of_ble_eq_true rfl, Nat.le_of_ble_eq_true rfl⟩ dX5_takeThing_10 (fun r9 σ9 τ9 H locs hp hw => ?_)
  obtain ⟨rfl, rfl, rfl⟩ := hp
  refine lv_istore (lv' := [(4, .int r_2), (3, .int r_1), (0, .ref (E.2.2 + 21)), (1, .ref (E.2.2 + 1)), (2, .int x2)]) hx hb dX5_takeThing_13 hl (by decide) rfl (fun ls hl => ?_)
  refine lv_iload_n hx hb dX5_takeThing_15 rfl (lv_at hl 1 rfl) ?_
  refine lv_if_lt (tgt := 27) hx hb dX5_takeThing_16 (by decide) (fun c_3 => ?_) (fun c_3 => ?_)
  · rw [if_pos c_3] at h
    refine lv_iload hx hb dX5_takeThing_27 (lv_at hl 0 rfl) ?_
    refine lv_if_lt (tgt := 54) hx hb dX5_takeThing_29 (by decide) (fun c_4 => ?_) (fun c_4 => ?_)
    · rw [if_pos c_4] at h
      refine lv_aload_n hx hb dX5_takeThing_54 rfl (lv_at hl 3 rfl) ?_
      refine lv_iload_n hx hb dX5_takeThing_55 rfl (lv_at hl 4 rfl) ?_
      refine lv_bipush (v := 45) hx hb dX5_takeThing_56 (by decide) ?_
      obtain ⟨r_5, σ_5, τ_5, q_5, h⟩ := bd_some h
      refine gx_cVi (As := [.int x2, .int 45]) (rest := []) S hK gx_ok hw (c_X7_hasSign l (E := E) N σ_2 τ_2 x2 45 q_5) cw_X5_87 t_1 cl_8 ⟨Nat.le_of_ble_eq_true rfl, Nat.le_of_ble_eq_true rfl⟩ rfl hl.1 rfl (Nat.le_of_ble_eq_true rfl) ⟨Nat.le_of_ble_eq_true rfl, Nat.le_of_ble_eq_true rfl⟩ dX5_takeThing_58 (fun r9 σ9 τ9 H locs hp hw => ?_)
      obtain ⟨rfl, rfl, rfl⟩ := hp
      refine lv_if_eq (tgt := 73) hx hb dX5_takeThing_61 (by decide) (fun c_6 => ?_) (fun c_6 => ?_)
      · rw [if_pos c_6] at h
        refine lv_aload_n hx hb dX5_takeThing_73 rfl (lv_at hl 3 rfl) ?_
        refine lv_iload_n hx hb dX5_takeThing_74 rfl (lv_at hl 4 rfl) ?_
        refine lv_bipush (v := 40) hx hb dX5_takeThing_75 (by decide) ?_
        obtain ⟨r_7, σ_7, τ_7, q_7, h⟩ := bd_some h
        refine gx_cVi (As := [.int x2, .int 40]) (rest := []) S hK gx_ok hw (c_X7_hasSign l (E := E) N σ_5 τ_5 x2 40 q_7) cw_X5_87 t_1 cl_8 ⟨Nat.le_of_ble_eq_true rfl, Nat.le_of_ble_eq_true rfl⟩ rfl hl.1 rfl (Nat.le_of_ble_eq_true rfl) ⟨Nat.le_of_ble_eq_true rfl, Nat.le_of_ble_eq_true rfl⟩ dX5_takeThing_77 (fun r9 σ9 τ9 H locs hp hw => ?_)
        obtain ⟨rfl, rfl, rfl⟩ := hp
        refine lv_if_eq (tgt := 127) hx hb dX5_takeThing_80 (by decide) (fun c_8 => ?_) (fun c_8 => ?_)
        · rw [if_pos c_8] at h
          refine lv_iconst (v := 0) hx hb dX5_takeThing_127 (by decide) ?_
          obtain ⟨rfl, rfl, rfl⟩ := sm_inj h
          exact gx_ri (post := gq_p 0 σ_7 τ_7) (v := 0) S hr hlk hw rfl dX5_takeThing_128 ⟨rfl, rfl, rfl⟩
        · rw [if_neg c_8] at h
          refine lv_aload_n hx hb dX5_takeThing_83 rfl (lv_at hl 2 rfl) ?_
          refine gx_get S hK hw t_21 cl_6 5 (by decide) rfl mw_205 rfl dX5_takeThing_84 ?_
          refine lv_iconst (v := 4) hx hb dX5_takeThing_87 (by decide) ?_
          refine lv_icmp_ge (tgt := 127) hx hb dX5_takeThing_88 (by decide) (fun c_9 => ?_) (fun c_9 => ?_)
          · rw [if_pos c_9] at h
            refine lv_iconst (v := 0) hx hb dX5_takeThing_127 (by decide) ?_
            obtain ⟨rfl, rfl, rfl⟩ := sm_inj h
            exact gx_ri (post := gq_p 0 σ_7 τ_7) (v := 0) S hr hlk hw rfl dX5_takeThing_128 ⟨rfl, rfl, rfl⟩
          · rw [if_neg c_9] at h
            refine lv_aload_n hx hb dX5_takeThing_91 rfl (lv_at hl 2 rfl) ?_
            refine lv_dup hx hb dX5_takeThing_92 rfl ?_
            refine gx_get S hK hw t_21 cl_6 5 (by decide) rfl mw_205 rfl dX5_takeThing_93 ?_
            refine lv_iconst (v := 1) hx hb dX5_takeThing_96 (by decide) ?_
            refine lv_iadd hx hb dX5_takeThing_97 ?_
            refine gx_put S hK gx_ok hw t_21 cl_6 5 (by decide) rfl mw_205 rfl rfl (ty := .int) (v := (σ_7 21 5) + 1) (by decide +kernel) rfl rfl dX5_takeThing_98 (fun H locs hw => ?_)
            obtain ⟨σ_10, e_10, h⟩ := nm_some h
            rw [← e_10] at hw
            refine lv_aload_n hx hb dX5_takeThing_101 rfl (lv_at hl 2 rfl) ?_
            refine lv_dup hx hb dX5_takeThing_102 rfl ?_
            refine gx_get S hK hw t_21 cl_6 6 (by decide) rfl mw_206 rfl dX5_takeThing_103 ?_
            refine lv_iconst (v := 1) hx hb dX5_takeThing_106 (by decide) ?_
            refine lv_aload_n hx hb dX5_takeThing_107 rfl (lv_at hl 2 rfl) ?_
            refine gx_get S hK hw t_21 cl_6 5 (by decide) rfl mw_205 rfl dX5_takeThing_108 ?_
            refine lv_ishl hx hb dX5_takeThing_111 ?_
            refine lv_iconst (v := (-1)) hx hb dX5_takeThing_112 (by decide) ?_
            refine lv_ixor hx hb dX5_takeThing_113 ?_
            refine lv_iand hx hb dX5_takeThing_114 ?_
            refine gx_put S hK gx_ok hw t_21 cl_6 6 (by decide) rfl mw_206 rfl rfl (ty := .int) (v := (σ_10 21 6) &&& ((1 <<< ((σ_10 21 5) &&& 31)) ^^^ (-1))) (by decide +kernel) rfl rfl dX5_takeThing_115 (fun H locs hw => ?_)
            obtain ⟨σ_11, e_11, h⟩ := nm_some h
            rw [← e_11] at hw
            refine lv_aload_n hx hb dX5_takeThing_118 rfl (lv_at hl 2 rfl) ?_
            refine lv_bipush (v := 16) hx hb dX5_takeThing_119 (by decide) ?_
            obtain ⟨u_12, σ_12, τ_12, q_12, h⟩ := bd_some h
            refine gx_cVv (As := [.int 16]) (rest := []) S hK gx_ok hw (c_X5_hold l (E := E) N σ_11 τ_7 16 q_12) cw_X5_91 t_21 cl_6 ⟨Nat.le_of_ble_eq_true rfl, Nat.le_of_ble_eq_true rfl⟩ rfl hl.1 rfl (Nat.le_of_ble_eq_true rfl) ⟨Nat.le_of_ble_eq_true rfl, Nat.le_of_ble_eq_true rfl⟩ dX5_takeThing_121 (fun σ9 τ9 H locs hp hw => ?_)
            obtain ⟨rfl, rfl⟩ := hp
            refine lv_goto (tgt := 129) hx hb dX5_takeThing_124 (by decide) ?_
            refine lv_iconst (v := 1) hx hb dX5_takeThing_129 (by decide) ?_
            obtain ⟨rfl, rfl, rfl⟩ := sm_inj h
            exact gx_ri (post := gq_p 1 σ_12 τ_12) (v := 1) S hr hlk hw rfl dX5_takeThing_130 ⟨rfl, rfl, rfl⟩
      · rw [if_neg c_6] at h
        refine lv_aload_n hx hb dX5_takeThing_64 rfl (lv_at hl 2 rfl) ?_
        refine lv_bipush (v := 8) hx hb dX5_takeThing_65 (by decide) ?_
        obtain ⟨u_13, σ_13, τ_13, q_13, h⟩ := bd_some h
        refine gx_cVv (As := [.int 8]) (rest := []) S hK gx_ok hw (c_X5_hold l (E := E) N σ_5 τ_5 8 q_13) cw_X5_91 t_21 cl_6 ⟨Nat.le_of_ble_eq_true rfl, Nat.le_of_ble_eq_true rfl⟩ rfl hl.1 rfl (Nat.le_of_ble_eq_true rfl) ⟨Nat.le_of_ble_eq_true rfl, Nat.le_of_ble_eq_true rfl⟩ dX5_takeThing_67 (fun σ9 τ9 H locs hp hw => ?_)
        obtain ⟨rfl, rfl⟩ := hp
        refine lv_goto (tgt := 129) hx hb dX5_takeThing_70 (by decide) ?_
        refine lv_iconst (v := 1) hx hb dX5_takeThing_129 (by decide) ?_
        obtain ⟨rfl, rfl, rfl⟩ := sm_inj h
        exact gx_ri (post := gq_p 1 σ_13 τ_13) (v := 1) S hr hlk hw rfl dX5_takeThing_130 ⟨rfl, rfl, rfl⟩
    · rw [if_neg c_4] at h
      refine lv_aload_n hx hb dX5_takeThing_32 rfl (lv_at hl 2 rfl) ?_
      refine lv_bipush (v := 32) hx hb dX5_takeThing_33 (by decide) ?_
      refine lv_iload hx hb dX5_takeThing_35 (lv_at hl 0 rfl) ?_
      refine lv_iadd hx hb dX5_takeThing_37 ?_
      obtain ⟨u_14, σ_14, τ_14, q_14, h⟩ := bd_some h
      refine gx_cVv (As := [.int (32 + r_2)]) (rest := []) S hK gx_ok hw (c_X5_addStep l (E := E) N σ_2 τ_2 (32 + r_2) q_14) cw_X5_84 t_21 cl_6 ⟨Nat.le_of_ble_eq_true rfl, Nat.le_of_ble_eq_true rfl⟩ rfl hl.1 rfl (Nat.le_of_ble_eq_true rfl) ⟨Nat.le_of_ble_eq_true rfl, Nat.le_of_ble_eq_true rfl⟩ dX5_takeThing_38 (fun σ9 τ9 H locs hp hw => ?_)
      obtain ⟨rfl, rfl⟩ := hp
      refine lv_aload_n hx hb dX5_takeThing_41 rfl (lv_at hl 2 rfl) ?_
      refine lv_iconst (v := 1) hx hb dX5_takeThing_42 (by decide) ?_
      refine gx_put S hK gx_ok hw t_21 cl_6 7 (by decide) rfl mw_207 rfl rfl (ty := .int) (v := 1) (by decide +kernel) rfl rfl dX5_takeThing_43 (fun H locs hw => ?_)
      obtain ⟨σ_15, e_15, h⟩ := nm_some h
      rw [← e_15] at hw
      refine lv_aload_n hx hb dX5_takeThing_46 rfl (lv_at hl 2 rfl) ?_
      refine lv_iconst (v := 0) hx hb dX5_takeThing_47 (by decide) ?_
      refine gx_put S hK gx_ok hw t_21 cl_6 8 (by decide) rfl mw_208 rfl rfl (ty := .boolean) (v := 0) (by decide +kernel) rfl rfl dX5_takeThing_48 (fun H locs hw => ?_)
      obtain ⟨σ_16, e_16, h⟩ := nm_some h
      rw [← e_16] at hw
      refine lv_goto (tgt := 129) hx hb dX5_takeThing_51 (by decide) ?_
      refine lv_iconst (v := 1) hx hb dX5_takeThing_129 (by decide) ?_
      obtain ⟨rfl, rfl, rfl⟩ := sm_inj h
      exact gx_ri (post := gq_p 1 σ_16 τ_14) (v := 1) S hr hlk hw rfl dX5_takeThing_130 ⟨rfl, rfl, rfl⟩
  · rw [if_neg c_3] at h
    refine lv_aload_n hx hb dX5_takeThing_19 rfl (lv_at hl 2 rfl) ?_
    refine lv_iload_n hx hb dX5_takeThing_20 rfl (lv_at hl 1 rfl) ?_
    obtain ⟨u_17, σ_17, τ_17, q_17, h⟩ := bd_some h
    refine gx_cVv (As := [.int r_1]) (rest := []) S hK gx_ok hw (c_X5_addFact l (E := E) N σ_2 τ_2 r_1 q_17) cw_X5_43 t_21 cl_6 ⟨Nat.le_of_ble_eq_true rfl, Nat.le_of_ble_eq_true rfl⟩ rfl hl.1 rfl (Nat.le_of_ble_eq_true rfl) ⟨Nat.le_of_ble_eq_true rfl, Nat.le_of_ble_eq_true rfl⟩ dX5_takeThing_21 (fun σ9 τ9 H locs hp hw => ?_)
    obtain ⟨rfl, rfl⟩ := hp
    refine lv_goto (tgt := 129) hx hb dX5_takeThing_24 (by decide) ?_
    refine lv_iconst (v := 1) hx hb dX5_takeThing_129 (by decide) ?_
    obtain ⟨rfl, rfl, rfl⟩ := sm_inj h
    exact gx_ri (post := gq_p 1 σ_17 τ_17) (v := 1) S hr hlk hw rfl dX5_takeThing_130 ⟨rfl, rfl, rfl⟩
set_option maxHeartbeats 4000000 in
set_option maxRecDepth 100000 in
theorem c_X5_takeThing (l : Launch) {E : gE} (N : Nat) (σ : gI) (τ : gJ) (x2 : Int32) {r : Int32} {σ1 : gI} {τ1 : gJ} (h : B_X5_takeThing_0 N σ τ x2 = some (r, σ1, τ1)) : gx_Mi l yX5_takeThing cX5_takeThing 5 (some .boolean) 5 gx_tb E σ τ [.ref (E.2.2 + 21), .ref (E.2.2 + 1), .int x2] (gq_p r σ1 τ1) := by
  refine gx_bi (by decide +kernel) (Nat.le_of_ble_eq_true rfl) ?_
  intro P9 e9 s m9 below meth C9 S hr hlk hK hw ls hl
  have hl : lv_has ls 5 [(0, .ref (E.2.2 + 21)), (1, .ref (E.2.2 + 1)), (2, .int x2)] := hl
  exact b_X5_takeThing_0 l S hr hlk hK N σ τ x2 h hw hl
/-! X5_lengthenNumber -/
def B_X5_lengthenNumber_0 (N : Nat) (σ : gI) (τ : gJ) (x1 : Int32) : Option (Int32 × gI × gJ) := if 3 ≤ σ 21 7 then (some (0, σ, τ)) else (if σ 21 3 < 1 then (some (0, σ, τ)) else (if σ 21 3 ≤ 40 then (ck ((σ 21 3) - 1) 40 fun j_4 => nm ((σ 22 j_4) - 32) fun v_5 => nm (up2 σ 22 j_4 ((32 + (10 * v_5)) + x1)) fun σ_6 => nm (up2 σ_6 21 7 ((σ_6 21 7) + 1)) fun σ_7 => some (1, σ_7, τ)) else (some (0, σ, τ))))
set_option maxHeartbeats 4000000 in
set_option maxRecDepth 100000 in
theorem b_X5_lengthenNumber_0 (l : Launch) (S : CallFix P9 m9 C9 cX5_lengthenNumber 3 s av.toArray gx_G RX5) (hr : meth.sig.returnType = (some .boolean)) (hlk : meth.locks = false) (hK : gx_K E s) (N : Nat) (σ : gI) (τ : gJ) (x1 : Int32) {r : Int32} {σ1 : gI} {τ1 : gJ} (h : B_X5_lengthenNumber_0 N σ τ x1 = some (r, σ1, τ1)) {H : Heap} {locs : List Loc} {ls : Array Slot} (hw : gx_W gx_tb gx_tb.length E s σ τ H locs) (hl : lv_has ls 3 [(0, .ref (E.2.2 + 21)), (1, .int x1)]) : W P9 l e9 (gx_rm 0) s m9 av.toArray below meth C9 H locs 0 0 (gq_Qi below av s E r σ1 τ1) (F0 m9 0 ls []) := by
  have hx := S.1
  have hb := S.2.1
  unfold B_X5_lengthenNumber_0 at h
  refine lv_aload_n hx hb dX5_lengthenNumber_0 rfl (lv_at hl 0 rfl) ?_
  refine gx_get S hK hw t_21 cl_6 7 (by decide) rfl mw_207 rfl dX5_lengthenNumber_1 ?_
  refine lv_iconst (v := 3) hx hb dX5_lengthenNumber_4 (by decide) ?_
  refine lv_icmp_ge (tgt := 25) hx hb dX5_lengthenNumber_5 (by decide) (fun c_1 => ?_) (fun c_1 => ?_)
  · rw [if_pos c_1] at h
    refine lv_iconst (v := 0) hx hb dX5_lengthenNumber_25 (by decide) ?_
    obtain ⟨rfl, rfl, rfl⟩ := sm_inj h
    exact gx_ri (post := gq_p 0 σ τ) (v := 0) S hr hlk hw rfl dX5_lengthenNumber_26 ⟨rfl, rfl, rfl⟩
  · rw [if_neg c_1] at h
    refine lv_aload_n hx hb dX5_lengthenNumber_8 rfl (lv_at hl 0 rfl) ?_
    refine gx_get S hK hw t_21 cl_6 3 (by decide) rfl mw_203 rfl dX5_lengthenNumber_9 ?_
    refine lv_iconst (v := 1) hx hb dX5_lengthenNumber_12 (by decide) ?_
    refine lv_icmp_lt (tgt := 25) hx hb dX5_lengthenNumber_13 (by decide) (fun c_2 => ?_) (fun c_2 => ?_)
    · rw [if_pos c_2] at h
      refine lv_iconst (v := 0) hx hb dX5_lengthenNumber_25 (by decide) ?_
      obtain ⟨rfl, rfl, rfl⟩ := sm_inj h
      exact gx_ri (post := gq_p 0 σ τ) (v := 0) S hr hlk hw rfl dX5_lengthenNumber_26 ⟨rfl, rfl, rfl⟩
    · rw [if_neg c_2] at h
      refine lv_aload_n hx hb dX5_lengthenNumber_16 rfl (lv_at hl 0 rfl) ?_
      refine gx_get S hK hw t_21 cl_6 3 (by decide) rfl mw_203 rfl dX5_lengthenNumber_17 ?_
      refine lv_bipush (v := 40) hx hb dX5_lengthenNumber_20 (by decide) ?_
      refine lv_icmp_le (tgt := 27) hx hb dX5_lengthenNumber_22 (by decide) (fun c_3 => ?_) (fun c_3 => ?_)
      · rw [if_pos c_3] at h
        refine lv_aload_n hx hb dX5_lengthenNumber_27 rfl (lv_at hl 0 rfl) ?_
        refine gx_getr (j := 22) S hK hw t_21 cl_6 0 (by decide) rfl mw_200 rfl dX5_lengthenNumber_28 ?_
        refine lv_aload_n hx hb dX5_lengthenNumber_31 rfl (lv_at hl 0 rfl) ?_
        refine gx_get S hK hw t_21 cl_6 3 (by decide) rfl mw_203 rfl dX5_lengthenNumber_32 ?_
        refine lv_iconst (v := 1) hx hb dX5_lengthenNumber_35 (by decide) ?_
        refine lv_isub hx hb dX5_lengthenNumber_36 ?_
        obtain ⟨j_4, hj_4, hi_4, h⟩ := ck_some h
        refine gx_iald S hK hw t_22 j_4 hj_4 hi_4 dX5_lengthenNumber_37 ?_
        refine lv_bipush (v := 32) hx hb dX5_lengthenNumber_38 (by decide) ?_
        refine lv_isub hx hb dX5_lengthenNumber_40 ?_
        refine lv_istore_n (lv' := [(2, .int ((σ 22 j_4) - 32)), (0, .ref (E.2.2 + 21)), (1, .int x1)]) hx hb dX5_lengthenNumber_41 rfl hl (by decide) rfl (fun ls hl => ?_)
        obtain ⟨v_5, e_5, h⟩ := nm_some h
        have hl : lv_has ls 3 [(2, .int v_5), (0, .ref (E.2.2 + 21)), (1, .int x1)] := by rw [e_5]; exact hl
        refine lv_aload_n hx hb dX5_lengthenNumber_42 rfl (lv_at hl 1 rfl) ?_
        refine gx_getr (j := 22) S hK hw t_21 cl_6 0 (by decide) rfl mw_200 rfl dX5_lengthenNumber_43 ?_
        refine lv_aload_n hx hb dX5_lengthenNumber_46 rfl (lv_at hl 1 rfl) ?_
        refine gx_get S hK hw t_21 cl_6 3 (by decide) rfl mw_203 rfl dX5_lengthenNumber_47 ?_
        refine lv_iconst (v := 1) hx hb dX5_lengthenNumber_50 (by decide) ?_
        refine lv_isub hx hb dX5_lengthenNumber_51 ?_
        refine lv_bipush (v := 32) hx hb dX5_lengthenNumber_52 (by decide) ?_
        refine lv_bipush (v := 10) hx hb dX5_lengthenNumber_54 (by decide) ?_
        refine lv_iload_n hx hb dX5_lengthenNumber_56 rfl (lv_at hl 0 rfl) ?_
        refine lv_imul hx hb dX5_lengthenNumber_57 ?_
        refine lv_iadd hx hb dX5_lengthenNumber_58 ?_
        refine lv_iload_n hx hb dX5_lengthenNumber_59 rfl (lv_at hl 2 rfl) ?_
        refine lv_iadd hx hb dX5_lengthenNumber_60 ?_
        refine gx_iast S hK gx_ok hw t_22 j_4 hj_4 hi_4 dX5_lengthenNumber_61 (fun H locs hw => ?_)
        obtain ⟨σ_6, e_6, h⟩ := nm_some h
        rw [← e_6] at hw
        refine lv_aload_n hx hb dX5_lengthenNumber_62 rfl (lv_at hl 1 rfl) ?_
        refine lv_dup hx hb dX5_lengthenNumber_63 rfl ?_
        refine gx_get S hK hw t_21 cl_6 7 (by decide) rfl mw_207 rfl dX5_lengthenNumber_64 ?_
        refine lv_iconst (v := 1) hx hb dX5_lengthenNumber_67 (by decide) ?_
        refine lv_iadd hx hb dX5_lengthenNumber_68 ?_
        refine gx_put S hK gx_ok hw t_21 cl_6 7 (by decide) rfl mw_207 rfl rfl (ty := .int) (v := (σ_6 21 7) + 1) (by decide +kernel) rfl rfl dX5_lengthenNumber_69 (fun H locs hw => ?_)
        obtain ⟨σ_7, e_7, h⟩ := nm_some h
        rw [← e_7] at hw
        refine lv_iconst (v := 1) hx hb dX5_lengthenNumber_72 (by decide) ?_
        obtain ⟨rfl, rfl, rfl⟩ := sm_inj h
        exact gx_ri (post := gq_p 1 σ_7 τ) (v := 1) S hr hlk hw rfl dX5_lengthenNumber_73 ⟨rfl, rfl, rfl⟩
      · rw [if_neg c_3] at h
        refine lv_iconst (v := 0) hx hb dX5_lengthenNumber_25 (by decide) ?_
        obtain ⟨rfl, rfl, rfl⟩ := sm_inj h
        exact gx_ri (post := gq_p 0 σ τ) (v := 0) S hr hlk hw rfl dX5_lengthenNumber_26 ⟨rfl, rfl, rfl⟩
set_option maxHeartbeats 4000000 in
set_option maxRecDepth 100000 in
theorem c_X5_lengthenNumber (l : Launch) {E : gE} (N : Nat) (σ : gI) (τ : gJ) (x1 : Int32) {r : Int32} {σ1 : gI} {τ1 : gJ} (h : B_X5_lengthenNumber_0 N σ τ x1 = some (r, σ1, τ1)) : gx_Mi l yX5_lengthenNumber cX5_lengthenNumber 3 (some .boolean) 0 gx_tb E σ τ [.ref (E.2.2 + 21), .int x1] (gq_p r σ1 τ1) := by
  refine gx_bi (by decide +kernel) (Nat.le_of_ble_eq_true rfl) ?_
  intro P9 e9 s m9 below meth C9 S hr hlk hK hw ls hl
  have hl : lv_has ls 3 [(0, .ref (E.2.2 + 21)), (1, .int x1)] := hl
  exact b_X5_lengthenNumber_0 l S hr hlk hK N σ τ x1 h hw hl
/-! X5_close -/
def B_X5_close_0 (N : Nat) (σ : gI) (τ : gJ) : Option (Int32 × gI × gJ) := if 0 < σ 21 5 then (bd (B_X5_release_0 N σ τ 0) fun _ σ_2 τ_2 => nm (up2 σ_2 21 4 (imax 0 ((σ_2 21 4) - 1))) fun σ_3 => nm (up2 σ_3 21 5 ((σ_3 21 5) - 1)) fun σ_4 => nm (up2 σ_4 21 7 3) fun σ_5 => some (1, σ_5, τ_2)) else (some (0, σ, τ))
set_option maxHeartbeats 4000000 in
set_option maxRecDepth 100000 in
theorem b_X5_close_0 (l : Launch) (S : CallFix P9 m9 C9 cX5_close 1 s av.toArray gx_G RX5) (hr : meth.sig.returnType = (some .boolean)) (hlk : meth.locks = false) (hK : gx_K E s) (N : Nat) (σ : gI) (τ : gJ) {r : Int32} {σ1 : gI} {τ1 : gJ} (h : B_X5_close_0 N σ τ = some (r, σ1, τ1)) {H : Heap} {locs : List Loc} {ls : Array Slot} (hw : gx_W gx_tb gx_tb.length E s σ τ H locs) (hl : lv_has ls 1 [(0, .ref (E.2.2 + 21))]) : W P9 l e9 (gx_rm 2) s m9 av.toArray below meth C9 H locs 0 0 (gq_Qi below av s E r σ1 τ1) (F0 m9 0 ls []) := by
  have hx := S.1
  have hb := S.2.1
  unfold B_X5_close_0 at h
  refine lv_aload_n hx hb dX5_close_0 rfl (lv_at hl 0 rfl) ?_
  refine gx_get S hK hw t_21 cl_6 5 (by decide) rfl mw_205 rfl dX5_close_1 ?_
  refine lv_if_gt (tgt := 9) hx hb dX5_close_4 (by decide) (fun c_1 => ?_) (fun c_1 => ?_)
  · rw [if_pos c_1] at h
    refine lv_aload_n hx hb dX5_close_9 rfl (lv_at hl 0 rfl) ?_
    refine lv_iconst (v := 0) hx hb dX5_close_10 (by decide) ?_
    obtain ⟨u_2, σ_2, τ_2, q_2, h⟩ := bd_some h
    refine gx_cVv (As := [.int 0]) (rest := []) S hK gx_ok hw (c_X5_release l (E := E) N σ τ 0 q_2) cw_X5_72 t_21 cl_6 ⟨Nat.le_of_ble_eq_true rfl, Nat.le_of_ble_eq_true rfl⟩ rfl hl.1 rfl (Nat.le_of_ble_eq_true rfl) ⟨Nat.le_of_ble_eq_true rfl, Nat.le_of_ble_eq_true rfl⟩ dX5_close_11 (fun σ9 τ9 H locs hp hw => ?_)
    obtain ⟨rfl, rfl⟩ := hp
    refine lv_aload_n hx hb dX5_close_14 rfl (lv_at hl 0 rfl) ?_
    refine lv_iconst (v := 0) hx hb dX5_close_15 (by decide) ?_
    refine lv_aload_n hx hb dX5_close_16 rfl (lv_at hl 0 rfl) ?_
    refine gx_get S hK hw t_21 cl_6 4 (by decide) rfl mw_204 rfl dX5_close_17 ?_
    refine lv_iconst (v := 1) hx hb dX5_close_20 (by decide) ?_
    refine lv_isub hx hb dX5_close_21 ?_
    refine gx_max (w := imax 0 ((σ_2 21 4) - 1)) S hl.1 mw_750 mw_577 mw_102 mw_578 ⟨Nat.le_of_ble_eq_true rfl, Nat.le_of_ble_eq_true rfl⟩ ⟨Nat.le_of_ble_eq_true rfl, Nat.le_of_ble_eq_true rfl⟩ dX5_close_22 rfl ?_
    refine gx_put S hK gx_ok hw t_21 cl_6 4 (by decide) rfl mw_204 rfl rfl (ty := .int) (v := imax 0 ((σ_2 21 4) - 1)) (by decide +kernel) rfl rfl dX5_close_25 (fun H locs hw => ?_)
    obtain ⟨σ_3, e_3, h⟩ := nm_some h
    rw [← e_3] at hw
    refine lv_aload_n hx hb dX5_close_28 rfl (lv_at hl 0 rfl) ?_
    refine lv_dup hx hb dX5_close_29 rfl ?_
    refine gx_get S hK hw t_21 cl_6 5 (by decide) rfl mw_205 rfl dX5_close_30 ?_
    refine lv_iconst (v := 1) hx hb dX5_close_33 (by decide) ?_
    refine lv_isub hx hb dX5_close_34 ?_
    refine gx_put S hK gx_ok hw t_21 cl_6 5 (by decide) rfl mw_205 rfl rfl (ty := .int) (v := (σ_3 21 5) - 1) (by decide +kernel) rfl rfl dX5_close_35 (fun H locs hw => ?_)
    obtain ⟨σ_4, e_4, h⟩ := nm_some h
    rw [← e_4] at hw
    refine lv_aload_n hx hb dX5_close_38 rfl (lv_at hl 0 rfl) ?_
    refine lv_iconst (v := 3) hx hb dX5_close_39 (by decide) ?_
    refine gx_put S hK gx_ok hw t_21 cl_6 7 (by decide) rfl mw_207 rfl rfl (ty := .int) (v := 3) (by decide +kernel) rfl rfl dX5_close_40 (fun H locs hw => ?_)
    obtain ⟨σ_5, e_5, h⟩ := nm_some h
    rw [← e_5] at hw
    refine lv_iconst (v := 1) hx hb dX5_close_43 (by decide) ?_
    obtain ⟨rfl, rfl, rfl⟩ := sm_inj h
    exact gx_ri (post := gq_p 1 σ_5 τ_2) (v := 1) S hr hlk hw rfl dX5_close_44 ⟨rfl, rfl, rfl⟩
  · rw [if_neg c_1] at h
    refine lv_iconst (v := 0) hx hb dX5_close_7 (by decide) ?_
    obtain ⟨rfl, rfl, rfl⟩ := sm_inj h
    exact gx_ri (post := gq_p 0 σ τ) (v := 0) S hr hlk hw rfl dX5_close_8 ⟨rfl, rfl, rfl⟩
set_option maxHeartbeats 4000000 in
set_option maxRecDepth 100000 in
theorem c_X5_close (l : Launch) {E : gE} (N : Nat) (σ : gI) (τ : gJ) {r : Int32} {σ1 : gI} {τ1 : gJ} (h : B_X5_close_0 N σ τ = some (r, σ1, τ1)) : gx_Mi l yX5_close cX5_close 1 (some .boolean) 2 gx_tb E σ τ [.ref (E.2.2 + 21)] (gq_p r σ1 τ1) := by
  refine gx_bi (by decide +kernel) (Nat.le_of_ble_eq_true rfl) ?_
  intro P9 e9 s m9 below meth C9 S hr hlk hK hw ls hl
  have hl : lv_has ls 1 [(0, .ref (E.2.2 + 21))] := hl
  exact b_X5_close_0 l S hr hlk hK N σ τ h hw hl
/-! X5_takeBehindThing -/
def B_X5_takeBehindThing_92 (N : Nat) (σ : gI) (τ : gJ) (x5 : Int32) : Option (Int32 × gI × gJ) := bd (B_X5_rankOf_0 N σ τ x5) fun r_1 σ_1 τ_1 => bd (B_X5_release_0 N σ_1 τ_1 r_1) fun _ σ_2 τ_2 => bd (B_X5_hold_0 N σ_2 τ_2 x5) fun _ σ_3 τ_3 => nm (up2 σ_3 21 8 1) fun σ_4 => some (1, σ_4, τ_3)
def B_X5_takeBehindThing_0 (N : Nat) (σ : gI) (τ : gJ) (x2 : Int32) : Option (Int32 × gI × gJ) := bd (B_X7_digit_0 N σ τ x2) fun r_1 σ_1 τ_1 => if r_1 < 0 then (bd (B_X7_hasSign_0 N σ_1 τ_1 x2 41) fun r_3 σ_3 τ_3 => if r_3 = 0 then (bd (B_X7_oneOf_0 N sb_2 σ_3 τ_3 x2) fun r_5 σ_5 τ_5 => if 0 ≤ r_5 then (nm (9 + r_5) fun v_7 => if v_7 < 13 then (B_X5_takeBehindThing_92 N σ_5 τ_5 v_7) else (if ((σ_5 21 6) >>> ((σ_5 21 5) &&& 31)) &&& 1 = 0 then (nm (up2 σ_5 21 6 ((σ_5 21 6) ||| (1 <<< ((σ_5 21 5) &&& 31)))) fun σ_10 => B_X5_takeBehindThing_92 N σ_10 τ_5 v_7) else (some (0, σ_5, τ_5)))) else (some (0, σ_5, τ_5))) else (bd (B_X5_close_0 N σ_3 τ_3) fun r_11 σ_11 τ_11 => cb r_11 <| some (r_11, σ_11, τ_11))) else (bd (B_X5_lengthenNumber_0 N σ_1 τ_1 r_1) fun r_13 σ_13 τ_13 => cb r_13 <| some (r_13, σ_13, τ_13))
set_option maxHeartbeats 4000000 in
set_option maxRecDepth 100000 in
theorem b_X5_takeBehindThing_92 (l : Launch) (S : CallFix P9 m9 C9 cX5_takeBehindThing 6 s av.toArray gx_G RX5) (hr : meth.sig.returnType = (some .boolean)) (hlk : meth.locks = false) (hK : gx_K E s) (N : Nat) (σ : gI) (τ : gJ) (x5 : Int32) {r : Int32} {σ1 : gI} {τ1 : gJ} (h : B_X5_takeBehindThing_92 N σ τ x5 = some (r, σ1, τ1)) {H : Heap} {locs : List Loc} {ls : Array Slot} (hw : gx_W gx_tb gx_tb.length E s σ τ H locs) (hl : lv_has ls 6 [(0, .ref (E.2.2 + 21)), (5, .int x5)]) : W P9 l e9 (gx_rm 5) s m9 av.toArray below meth C9 H locs 0 0 (gq_Qi below av s E r σ1 τ1) (F0 m9 92 ls []) := by
  have hx := S.1
  have hb := S.2.1
  unfold B_X5_takeBehindThing_92 at h
  refine lv_aload_n hx hb dX5_takeBehindThing_92 rfl (lv_at hl 0 rfl) ?_
  refine lv_iload hx hb dX5_takeBehindThing_93 (lv_at hl 1 rfl) ?_
  obtain ⟨r_1, σ_1, τ_1, q_1, h⟩ := bd_some h
  refine gx_cSi (As := [.int x5]) (rest := [.ref (E.2.2 + 21)]) S hK gx_ok hw (c_X5_rankOf l (E := E) N σ τ x5 q_1) cw_X5_103 ⟨Nat.le_of_ble_eq_true rfl, Nat.le_of_ble_eq_true rfl⟩ rfl hl.1 rfl (Nat.le_of_ble_eq_true rfl) ⟨Nat.le_of_ble_eq_true rfl, Nat.le_of_ble_eq_true rfl⟩ dX5_takeBehindThing_95 (fun r9 σ9 τ9 H locs hp hw => ?_)
  obtain ⟨rfl, rfl, rfl⟩ := hp
  obtain ⟨u_2, σ_2, τ_2, q_2, h⟩ := bd_some h
  refine gx_cVv (As := [.int r_1]) (rest := []) S hK gx_ok hw (c_X5_release l (E := E) N σ_1 τ_1 r_1 q_2) cw_X5_72 t_21 cl_6 ⟨Nat.le_of_ble_eq_true rfl, Nat.le_of_ble_eq_true rfl⟩ rfl hl.1 rfl (Nat.le_of_ble_eq_true rfl) ⟨Nat.le_of_ble_eq_true rfl, Nat.le_of_ble_eq_true rfl⟩ dX5_takeBehindThing_98 (fun σ9 τ9 H locs hp hw => ?_)
  obtain ⟨rfl, rfl⟩ := hp
  refine lv_aload_n hx hb dX5_takeBehindThing_101 rfl (lv_at hl 0 rfl) ?_
  refine lv_iload hx hb dX5_takeBehindThing_102 (lv_at hl 1 rfl) ?_
  obtain ⟨u_3, σ_3, τ_3, q_3, h⟩ := bd_some h
  refine gx_cVv (As := [.int x5]) (rest := []) S hK gx_ok hw (c_X5_hold l (E := E) N σ_2 τ_2 x5 q_3) cw_X5_91 t_21 cl_6 ⟨Nat.le_of_ble_eq_true rfl, Nat.le_of_ble_eq_true rfl⟩ rfl hl.1 rfl (Nat.le_of_ble_eq_true rfl) ⟨Nat.le_of_ble_eq_true rfl, Nat.le_of_ble_eq_true rfl⟩ dX5_takeBehindThing_104 (fun σ9 τ9 H locs hp hw => ?_)
  obtain ⟨rfl, rfl⟩ := hp
  refine lv_aload_n hx hb dX5_takeBehindThing_107 rfl (lv_at hl 0 rfl) ?_
  refine lv_iconst (v := 1) hx hb dX5_takeBehindThing_108 (by decide) ?_
  refine gx_put S hK gx_ok hw t_21 cl_6 8 (by decide) rfl mw_208 rfl rfl (ty := .boolean) (v := 1) (by decide +kernel) rfl rfl dX5_takeBehindThing_109 (fun H locs hw => ?_)
  obtain ⟨σ_4, e_4, h⟩ := nm_some h
  rw [← e_4] at hw
  refine lv_iconst (v := 1) hx hb dX5_takeBehindThing_112 (by decide) ?_
  obtain ⟨rfl, rfl, rfl⟩ := sm_inj h
  exact gx_ri (post := gq_p 1 σ_4 τ_3) (v := 1) S hr hlk hw rfl dX5_takeBehindThing_113 ⟨rfl, rfl, rfl⟩
set_option maxHeartbeats 4000000 in
set_option maxRecDepth 100000 in
theorem b_X5_takeBehindThing_0 (l : Launch) (S : CallFix P9 m9 C9 cX5_takeBehindThing 6 s av.toArray gx_G RX5) (hr : meth.sig.returnType = (some .boolean)) (hlk : meth.locks = false) (hK : gx_K E s) (N : Nat) (σ : gI) (τ : gJ) (x2 : Int32) {r : Int32} {σ1 : gI} {τ1 : gJ} (h : B_X5_takeBehindThing_0 N σ τ x2 = some (r, σ1, τ1)) {H : Heap} {locs : List Loc} {ls : Array Slot} (hw : gx_W gx_tb gx_tb.length E s σ τ H locs) (hl : lv_has ls 6 [(0, .ref (E.2.2 + 21)), (1, .ref (E.2.2 + 1)), (2, .int x2)]) : W P9 l e9 (gx_rm 5) s m9 av.toArray below meth C9 H locs 0 0 (gq_Qi below av s E r σ1 τ1) (F0 m9 0 ls []) := by
  have hx := S.1
  have hb := S.2.1
  unfold B_X5_takeBehindThing_0 at h
  refine lv_aload_n hx hb dX5_takeBehindThing_0 rfl (lv_at hl 1 rfl) ?_
  refine lv_iload_n hx hb dX5_takeBehindThing_1 rfl (lv_at hl 2 rfl) ?_
  obtain ⟨r_1, σ_1, τ_1, q_1, h⟩ := bd_some h
  refine gx_cVi (As := [.int x2]) (rest := []) S hK gx_ok hw (c_X7_digit l (E := E) N σ τ x2 q_1) cw_X5_81 t_1 cl_8 ⟨Nat.le_of_ble_eq_true rfl, Nat.le_of_ble_eq_true rfl⟩ rfl hl.1 rfl (Nat.le_of_ble_eq_true rfl) ⟨Nat.le_of_ble_eq_true rfl, Nat.le_of_ble_eq_true rfl⟩ dX5_takeBehindThing_2 (fun r9 σ9 τ9 H locs hp hw => ?_)
  obtain ⟨rfl, rfl, rfl⟩ := hp
  refine lv_istore_n (lv' := [(3, .int r_1), (0, .ref (E.2.2 + 21)), (1, .ref (E.2.2 + 1)), (2, .int x2)]) hx hb dX5_takeBehindThing_5 rfl hl (by decide) rfl (fun ls hl => ?_)
  refine lv_iload_n hx hb dX5_takeBehindThing_6 rfl (lv_at hl 0 rfl) ?_
  refine lv_if_lt (tgt := 16) hx hb dX5_takeBehindThing_7 (by decide) (fun c_2 => ?_) (fun c_2 => ?_)
  · rw [if_pos c_2] at h
    refine lv_aload_n hx hb dX5_takeBehindThing_16 rfl (lv_at hl 2 rfl) ?_
    refine lv_iload_n hx hb dX5_takeBehindThing_17 rfl (lv_at hl 3 rfl) ?_
    refine lv_bipush (v := 41) hx hb dX5_takeBehindThing_18 (by decide) ?_
    obtain ⟨r_3, σ_3, τ_3, q_3, h⟩ := bd_some h
    refine gx_cVi (As := [.int x2, .int 41]) (rest := []) S hK gx_ok hw (c_X7_hasSign l (E := E) N σ_1 τ_1 x2 41 q_3) cw_X5_87 t_1 cl_8 ⟨Nat.le_of_ble_eq_true rfl, Nat.le_of_ble_eq_true rfl⟩ rfl hl.1 rfl (Nat.le_of_ble_eq_true rfl) ⟨Nat.le_of_ble_eq_true rfl, Nat.le_of_ble_eq_true rfl⟩ dX5_takeBehindThing_20 (fun r9 σ9 τ9 H locs hp hw => ?_)
    obtain ⟨rfl, rfl, rfl⟩ := hp
    refine lv_if_eq (tgt := 31) hx hb dX5_takeBehindThing_23 (by decide) (fun c_4 => ?_) (fun c_4 => ?_)
    · rw [if_pos c_4] at h
      refine lv_aload_n hx hb dX5_takeBehindThing_31 rfl (lv_at hl 2 rfl) ?_
      refine gx_lds S hK ss_2 rfl dX5_takeBehindThing_32 ?_
      refine lv_iload_n hx hb dX5_takeBehindThing_34 rfl (lv_at hl 3 rfl) ?_
      obtain ⟨r_5, σ_5, τ_5, q_5, h⟩ := bd_some h
      refine zs_V (As := [.ref (E.1.2.1 2), .int x2]) (rest := []) S hK hw (zs_k hK hw zk_2) (c_X7_oneOf l (E := E) N sb_2 σ_3 τ_3 x2 q_5) rfl cw_X5_77 (va_recv hK.1 hw.1 cl_8.1 (gx_at t_1)) ⟨Nat.le_of_ble_eq_true rfl, Nat.le_of_ble_eq_true rfl⟩ rfl hl.1 rfl (Nat.le_of_ble_eq_true rfl) ⟨Nat.le_of_ble_eq_true rfl, Nat.le_of_ble_eq_true rfl⟩ dX5_takeBehindThing_35 (fun r9 σ9 τ9 H locs hp hw => ?_)
      obtain ⟨rfl, rfl, rfl⟩ := hp
      refine lv_istore (lv' := [(4, .int r_5), (3, .int r_1), (0, .ref (E.2.2 + 21)), (1, .ref (E.2.2 + 1)), (2, .int x2)]) hx hb dX5_takeBehindThing_38 hl (by decide) rfl (fun ls hl => ?_)
      refine lv_iload hx hb dX5_takeBehindThing_40 (lv_at hl 0 rfl) ?_
      refine lv_if_ge (tgt := 47) hx hb dX5_takeBehindThing_42 (by decide) (fun c_6 => ?_) (fun c_6 => ?_)
      · rw [if_pos c_6] at h
        refine lv_bipush (v := 9) hx hb dX5_takeBehindThing_47 (by decide) ?_
        refine lv_iload hx hb dX5_takeBehindThing_49 (lv_at hl 0 rfl) ?_
        refine lv_iadd hx hb dX5_takeBehindThing_51 ?_
        refine lv_istore (lv' := [(5, .int (9 + r_5)), (4, .int r_5), (3, .int r_1), (0, .ref (E.2.2 + 21)), (1, .ref (E.2.2 + 1)), (2, .int x2)]) hx hb dX5_takeBehindThing_52 hl (by decide) rfl (fun ls hl => ?_)
        obtain ⟨v_7, e_7, h⟩ := nm_some h
        have hl : lv_has ls 6 [(5, .int v_7), (4, .int r_5), (3, .int r_1), (0, .ref (E.2.2 + 21)), (1, .ref (E.2.2 + 1)), (2, .int x2)] := by rw [e_7]; exact hl
        refine lv_iload hx hb dX5_takeBehindThing_54 (lv_at hl 0 rfl) ?_
        refine lv_bipush (v := 13) hx hb dX5_takeBehindThing_56 (by decide) ?_
        refine lv_icmp_lt (tgt := 92) hx hb dX5_takeBehindThing_58 (by decide) (fun c_8 => ?_) (fun c_8 => ?_)
        · rw [if_pos c_8] at h
          exact b_X5_takeBehindThing_92 l S hr hlk hK N σ_5 τ_5 v_7 h hw (lv_sub hl [3, 0] rfl)
        · rw [if_neg c_8] at h
          refine lv_aload_n hx hb dX5_takeBehindThing_61 rfl (lv_at hl 3 rfl) ?_
          refine gx_get S hK hw t_21 cl_6 6 (by decide) rfl mw_206 rfl dX5_takeBehindThing_62 ?_
          refine lv_aload_n hx hb dX5_takeBehindThing_65 rfl (lv_at hl 3 rfl) ?_
          refine gx_get S hK hw t_21 cl_6 5 (by decide) rfl mw_205 rfl dX5_takeBehindThing_66 ?_
          refine lv_ishr hx hb dX5_takeBehindThing_69 ?_
          refine lv_iconst (v := 1) hx hb dX5_takeBehindThing_70 (by decide) ?_
          refine lv_iand hx hb dX5_takeBehindThing_71 ?_
          refine lv_if_eq (tgt := 77) hx hb dX5_takeBehindThing_72 (by decide) (fun c_9 => ?_) (fun c_9 => ?_)
          · rw [if_pos c_9] at h
            refine lv_aload_n hx hb dX5_takeBehindThing_77 rfl (lv_at hl 3 rfl) ?_
            refine lv_dup hx hb dX5_takeBehindThing_78 rfl ?_
            refine gx_get S hK hw t_21 cl_6 6 (by decide) rfl mw_206 rfl dX5_takeBehindThing_79 ?_
            refine lv_iconst (v := 1) hx hb dX5_takeBehindThing_82 (by decide) ?_
            refine lv_aload_n hx hb dX5_takeBehindThing_83 rfl (lv_at hl 3 rfl) ?_
            refine gx_get S hK hw t_21 cl_6 5 (by decide) rfl mw_205 rfl dX5_takeBehindThing_84 ?_
            refine lv_ishl hx hb dX5_takeBehindThing_87 ?_
            refine lv_ior hx hb dX5_takeBehindThing_88 ?_
            refine gx_put S hK gx_ok hw t_21 cl_6 6 (by decide) rfl mw_206 rfl rfl (ty := .int) (v := (σ_5 21 6) ||| (1 <<< ((σ_5 21 5) &&& 31))) (by decide +kernel) rfl rfl dX5_takeBehindThing_89 (fun H locs hw => ?_)
            obtain ⟨σ_10, e_10, h⟩ := nm_some h
            rw [← e_10] at hw
            exact b_X5_takeBehindThing_92 l S hr hlk hK N σ_10 τ_5 v_7 h hw (lv_sub hl [3, 0] rfl)
          · rw [if_neg c_9] at h
            refine lv_iconst (v := 0) hx hb dX5_takeBehindThing_75 (by decide) ?_
            obtain ⟨rfl, rfl, rfl⟩ := sm_inj h
            exact gx_ri (post := gq_p 0 σ_5 τ_5) (v := 0) S hr hlk hw rfl dX5_takeBehindThing_76 ⟨rfl, rfl, rfl⟩
      · rw [if_neg c_6] at h
        refine lv_iconst (v := 0) hx hb dX5_takeBehindThing_45 (by decide) ?_
        obtain ⟨rfl, rfl, rfl⟩ := sm_inj h
        exact gx_ri (post := gq_p 0 σ_5 τ_5) (v := 0) S hr hlk hw rfl dX5_takeBehindThing_46 ⟨rfl, rfl, rfl⟩
    · rw [if_neg c_4] at h
      refine lv_aload_n hx hb dX5_takeBehindThing_26 rfl (lv_at hl 1 rfl) ?_
      obtain ⟨r_11, σ_11, τ_11, q_11, h⟩ := bd_some h
      refine gx_cVi (As := []) (rest := []) S hK gx_ok hw (c_X5_close l (E := E) N σ_3 τ_3 q_11) cw_X5_97 t_21 cl_6 ⟨Nat.le_of_ble_eq_true rfl, Nat.le_of_ble_eq_true rfl⟩ rfl hl.1 rfl (Nat.le_of_ble_eq_true rfl) ⟨Nat.le_of_ble_eq_true rfl, Nat.le_of_ble_eq_true rfl⟩ dX5_takeBehindThing_27 (fun r9 σ9 τ9 H locs hp hw => ?_)
      obtain ⟨rfl, rfl, rfl⟩ := hp
      obtain ⟨hq_12, h⟩ := cb_some h
      obtain ⟨rfl, rfl, rfl⟩ := sm_inj h
      exact gx_ri (post := gq_p r_11 σ_11 τ_11) (v := r_11) S hr hlk hw (cb_nar hq_12) dX5_takeBehindThing_30 ⟨rfl, rfl, rfl⟩
  · rw [if_neg c_2] at h
    refine lv_aload_n hx hb dX5_takeBehindThing_10 rfl (lv_at hl 1 rfl) ?_
    refine lv_iload_n hx hb dX5_takeBehindThing_11 rfl (lv_at hl 0 rfl) ?_
    obtain ⟨r_13, σ_13, τ_13, q_13, h⟩ := bd_some h
    refine gx_cVi (As := [.int r_1]) (rest := []) S hK gx_ok hw (c_X5_lengthenNumber l (E := E) N σ_1 τ_1 r_1 q_13) cw_X5_94 t_21 cl_6 ⟨Nat.le_of_ble_eq_true rfl, Nat.le_of_ble_eq_true rfl⟩ rfl hl.1 rfl (Nat.le_of_ble_eq_true rfl) ⟨Nat.le_of_ble_eq_true rfl, Nat.le_of_ble_eq_true rfl⟩ dX5_takeBehindThing_12 (fun r9 σ9 τ9 H locs hp hw => ?_)
    obtain ⟨rfl, rfl, rfl⟩ := hp
    obtain ⟨hq_14, h⟩ := cb_some h
    obtain ⟨rfl, rfl, rfl⟩ := sm_inj h
    exact gx_ri (post := gq_p r_13 σ_13 τ_13) (v := r_13) S hr hlk hw (cb_nar hq_14) dX5_takeBehindThing_15 ⟨rfl, rfl, rfl⟩
set_option maxHeartbeats 4000000 in
set_option maxRecDepth 100000 in
theorem c_X5_takeBehindThing (l : Launch) {E : gE} (N : Nat) (σ : gI) (τ : gJ) (x2 : Int32) {r : Int32} {σ1 : gI} {τ1 : gJ} (h : B_X5_takeBehindThing_0 N σ τ x2 = some (r, σ1, τ1)) : gx_Mi l yX5_takeBehindThing cX5_takeBehindThing 6 (some .boolean) 5 gx_tb E σ τ [.ref (E.2.2 + 21), .ref (E.2.2 + 1), .int x2] (gq_p r σ1 τ1) := by
  refine gx_bi (by decide +kernel) (Nat.le_of_ble_eq_true rfl) ?_
  intro P9 e9 s m9 below meth C9 S hr hlk hK hw ls hl
  have hl : lv_has ls 6 [(0, .ref (E.2.2 + 21)), (1, .ref (E.2.2 + 1)), (2, .int x2)] := hl
  exact b_X5_takeBehindThing_0 l S hr hlk hK N σ τ x2 h hw hl
/-! X5_read -/
def C_X5_read_27 (N : Nat) (rec_27 : gI → gJ → Int32 → Option (Int32 × gI × gJ)) (σ : gI) (τ : gJ) (x2 : Int32) : Option (Int32 × gI × gJ) := if 40 < x2 then (some ((-41), σ, τ)) else (bd (B_X7_isOver_0 N σ τ x2) fun r_2 σ_2 τ_2 => if r_2 = 0 then (if σ_2 21 8 = 0 then (bd (B_X5_takeBehindThing_0 N σ_2 τ_2 x2) fun r_5 σ_5 τ_5 => if r_5 = 0 then (some ((-1) - x2, σ_5, τ_5)) else (nm (x2 + 1) fun v_7 => rec_27 σ_5 τ_5 v_7)) else (bd (B_X5_takeThing_0 N σ_2 τ_2 x2) fun r_8 σ_8 τ_8 => if r_8 = 0 then (some ((-1) - x2, σ_8, τ_8)) else (nm (x2 + 1) fun v_10 => rec_27 σ_8 τ_8 v_10))) else (bd (B_X5_finish_0 N σ_2 τ_2 x2) fun r_11 σ_11 τ_11 => some (r_11, σ_11, τ_11)))
def H_X5_read_27 (N : Nat) : Nat → gI → gJ → Int32 → Option (Int32 × gI × gJ) := itn (fun rec_27 => C_X5_read_27 N rec_27) (fun _ _ _ => none)
def B_X5_read_0 (N : Nat) (σ : gI) (τ : gJ) : Option (Int32 × gI × gJ) := bd (B_X5_clear_0 N σ τ) fun _ σ_1 τ_1 => bd (B_X7_showAtMost_0 N σ_1 τ_1 40) fun _ σ_2 τ_2 => bd (B_X7_isOver_0 N σ_2 τ_2 0) fun r_3 σ_3 τ_3 => if r_3 = 0 then (H_X5_read_27 N N σ_3 τ_3 0) else (bd (B_X5_addFact_0 N σ_3 τ_3 0) fun _ σ_5 τ_5 => some (0, σ_5, τ_5))
set_option maxHeartbeats 4000000 in
set_option maxRecDepth 100000 in
theorem k_X5_read_27 (l : Launch) (S : CallFix P9 m9 C9 cX5_read 4 s av.toArray gx_G RX5) (hr : meth.sig.returnType = (some .int)) (hlk : meth.locks = false) (hK : gx_K E s) (N : Nat) (rec_27 : gI → gJ → Int32 → Option (Int32 × gI × gJ)) (hrec_27 : ∀ (σ : gI) (τ : gJ) (x2 : Int32) (r : Int32) (σ1 : gI) (τ1 : gJ) (H : Heap) (locs : List Loc) (ls : Array Slot), rec_27 σ τ x2 = some (r, σ1, τ1) → gx_W gx_tb gx_tb.length E s σ τ H locs → lv_has ls 4 [(0, .ref (E.2.2 + 21)), (1, .ref (E.2.2 + 1)), (2, .int x2)] → W P9 l e9 (gx_rm 6) s m9 av.toArray below meth C9 H locs 0 0 (gq_Qi below av s E r σ1 τ1) (F0 m9 27 ls [])) (σ : gI) (τ : gJ) (x2 : Int32) {r : Int32} {σ1 : gI} {τ1 : gJ} (h : C_X5_read_27 N rec_27 σ τ x2 = some (r, σ1, τ1)) {H : Heap} {locs : List Loc} {ls : Array Slot} (hw : gx_W gx_tb gx_tb.length E s σ τ H locs) (hl : lv_has ls 4 [(0, .ref (E.2.2 + 21)), (1, .ref (E.2.2 + 1)), (2, .int x2)]) : W P9 l e9 (gx_rm 6) s m9 av.toArray below meth C9 H locs 0 0 (gq_Qi below av s E r σ1 τ1) (F0 m9 27 ls []) := by
  have hx := S.1
  have hb := S.2.1
  unfold C_X5_read_27 at h
  refine lv_iload_n hx hb dX5_read_27 rfl (lv_at hl 2 rfl) ?_
  refine lv_bipush (v := 40) hx hb dX5_read_28 (by decide) ?_
  refine lv_icmp_gt (tgt := 84) hx hb dX5_read_30 (by decide) (fun c_1 => ?_) (fun c_1 => ?_)
  · rw [if_pos c_1] at h
    refine lv_bipush (v := (-41)) hx hb dX5_read_84 (by decide) ?_
    obtain ⟨rfl, rfl, rfl⟩ := sm_inj h
    exact gx_ri (post := gq_p (-41) σ τ) (v := (-41)) S hr hlk hw rfl dX5_read_86 ⟨rfl, rfl, rfl⟩
  · rw [if_neg c_1] at h
    refine lv_aload_n hx hb dX5_read_33 rfl (lv_at hl 1 rfl) ?_
    refine lv_iload_n hx hb dX5_read_34 rfl (lv_at hl 2 rfl) ?_
    obtain ⟨r_2, σ_2, τ_2, q_2, h⟩ := bd_some h
    refine gx_cVi (As := [.int x2]) (rest := []) S hK gx_ok hw (c_X7_isOver l (E := E) N σ τ x2 q_2) cw_X5_39 t_1 cl_8 ⟨Nat.le_of_ble_eq_true rfl, Nat.le_of_ble_eq_true rfl⟩ rfl hl.1 rfl (Nat.le_of_ble_eq_true rfl) ⟨Nat.le_of_ble_eq_true rfl, Nat.le_of_ble_eq_true rfl⟩ dX5_read_35 (fun r9 σ9 τ9 H locs hp hw => ?_)
    obtain ⟨rfl, rfl, rfl⟩ := hp
    refine lv_if_eq (tgt := 47) hx hb dX5_read_38 (by decide) (fun c_3 => ?_) (fun c_3 => ?_)
    · rw [if_pos c_3] at h
      refine lv_aload_n hx hb dX5_read_47 rfl (lv_at hl 0 rfl) ?_
      refine gx_get S hK hw t_21 cl_6 8 (by decide) rfl mw_208 rfl dX5_read_48 ?_
      refine lv_if_eq (tgt := 63) hx hb dX5_read_51 (by decide) (fun c_4 => ?_) (fun c_4 => ?_)
      · rw [if_pos c_4] at h
        refine lv_aload_n hx hb dX5_read_63 rfl (lv_at hl 0 rfl) ?_
        refine lv_aload_n hx hb dX5_read_64 rfl (lv_at hl 1 rfl) ?_
        refine lv_iload_n hx hb dX5_read_65 rfl (lv_at hl 2 rfl) ?_
        obtain ⟨r_5, σ_5, τ_5, q_5, h⟩ := bd_some h
        refine gx_cVi (As := [.ref (E.2.2 + 1), .int x2]) (rest := []) S hK gx_ok hw (c_X5_takeBehindThing l (E := E) N σ_2 τ_2 x2 q_5) cw_X5_57 t_21 cl_6 ⟨Nat.le_of_ble_eq_true rfl, Nat.le_of_ble_eq_true rfl⟩ rfl hl.1 rfl (Nat.le_of_ble_eq_true rfl) ⟨Nat.le_of_ble_eq_true rfl, Nat.le_of_ble_eq_true rfl⟩ dX5_read_66 (fun r9 σ9 τ9 H locs hp hw => ?_)
        obtain ⟨rfl, rfl, rfl⟩ := hp
        refine lv_istore_n (lv' := [(3, .int r_5), (0, .ref (E.2.2 + 21)), (1, .ref (E.2.2 + 1)), (2, .int x2)]) hx hb dX5_read_69 rfl hl (by decide) rfl (fun ls hl => ?_)
        refine lv_iload_n hx hb dX5_read_70 rfl (lv_at hl 0 rfl) ?_
        refine lv_if_ne (tgt := 78) hx hb dX5_read_71 (by decide) (fun c_6 => ?_) (fun c_6 => ?_)
        · rw [if_neg c_6] at h
          refine lv_iinc (v := x2 + 1) (lv' := [(2, .int (x2 + 1)), (3, .int r_5), (0, .ref (E.2.2 + 21)), (1, .ref (E.2.2 + 1))]) hx hb dX5_read_78 hl (k := 3) rfl rfl (by decide) rfl (fun ls hl => ?_)
          obtain ⟨v_7, e_7, h⟩ := nm_some h
          have hl : lv_has ls 4 [(2, .int v_7), (3, .int r_5), (0, .ref (E.2.2 + 21)), (1, .ref (E.2.2 + 1))] := by rw [e_7]; exact hl
          refine lv_goto (tgt := 27) hx hb dX5_read_81 (by decide) ?_
          exact hrec_27 σ_5 τ_5 v_7 _ _ _ _ _ _ h hw (lv_sub hl [2, 3, 0] rfl)
        · rw [if_pos c_6] at h
          refine lv_iconst (v := (-1)) hx hb dX5_read_74 (by decide) ?_
          refine lv_iload_n hx hb dX5_read_75 rfl (lv_at hl 3 rfl) ?_
          refine lv_isub hx hb dX5_read_76 ?_
          obtain ⟨rfl, rfl, rfl⟩ := sm_inj h
          exact gx_ri (post := gq_p ((-1) - x2) σ_5 τ_5) (v := (-1) - x2) S hr hlk hw rfl dX5_read_77 ⟨rfl, rfl, rfl⟩
      · rw [if_neg c_4] at h
        refine lv_aload_n hx hb dX5_read_54 rfl (lv_at hl 0 rfl) ?_
        refine lv_aload_n hx hb dX5_read_55 rfl (lv_at hl 1 rfl) ?_
        refine lv_iload_n hx hb dX5_read_56 rfl (lv_at hl 2 rfl) ?_
        obtain ⟨r_8, σ_8, τ_8, q_8, h⟩ := bd_some h
        refine gx_cVi (As := [.ref (E.2.2 + 1), .int x2]) (rest := []) S hK gx_ok hw (c_X5_takeThing l (E := E) N σ_2 τ_2 x2 q_8) cw_X5_53 t_21 cl_6 ⟨Nat.le_of_ble_eq_true rfl, Nat.le_of_ble_eq_true rfl⟩ rfl hl.1 rfl (Nat.le_of_ble_eq_true rfl) ⟨Nat.le_of_ble_eq_true rfl, Nat.le_of_ble_eq_true rfl⟩ dX5_read_57 (fun r9 σ9 τ9 H locs hp hw => ?_)
        obtain ⟨rfl, rfl, rfl⟩ := hp
        refine lv_goto (tgt := 69) hx hb dX5_read_60 (by decide) ?_
        refine lv_istore_n (lv' := [(3, .int r_8), (0, .ref (E.2.2 + 21)), (1, .ref (E.2.2 + 1)), (2, .int x2)]) hx hb dX5_read_69 rfl hl (by decide) rfl (fun ls hl => ?_)
        refine lv_iload_n hx hb dX5_read_70 rfl (lv_at hl 0 rfl) ?_
        refine lv_if_ne (tgt := 78) hx hb dX5_read_71 (by decide) (fun c_9 => ?_) (fun c_9 => ?_)
        · rw [if_neg c_9] at h
          refine lv_iinc (v := x2 + 1) (lv' := [(2, .int (x2 + 1)), (3, .int r_8), (0, .ref (E.2.2 + 21)), (1, .ref (E.2.2 + 1))]) hx hb dX5_read_78 hl (k := 3) rfl rfl (by decide) rfl (fun ls hl => ?_)
          obtain ⟨v_10, e_10, h⟩ := nm_some h
          have hl : lv_has ls 4 [(2, .int v_10), (3, .int r_8), (0, .ref (E.2.2 + 21)), (1, .ref (E.2.2 + 1))] := by rw [e_10]; exact hl
          refine lv_goto (tgt := 27) hx hb dX5_read_81 (by decide) ?_
          exact hrec_27 σ_8 τ_8 v_10 _ _ _ _ _ _ h hw (lv_sub hl [2, 3, 0] rfl)
        · rw [if_pos c_9] at h
          refine lv_iconst (v := (-1)) hx hb dX5_read_74 (by decide) ?_
          refine lv_iload_n hx hb dX5_read_75 rfl (lv_at hl 3 rfl) ?_
          refine lv_isub hx hb dX5_read_76 ?_
          obtain ⟨rfl, rfl, rfl⟩ := sm_inj h
          exact gx_ri (post := gq_p ((-1) - x2) σ_8 τ_8) (v := (-1) - x2) S hr hlk hw rfl dX5_read_77 ⟨rfl, rfl, rfl⟩
    · rw [if_neg c_3] at h
      refine lv_aload_n hx hb dX5_read_41 rfl (lv_at hl 0 rfl) ?_
      refine lv_iload_n hx hb dX5_read_42 rfl (lv_at hl 2 rfl) ?_
      obtain ⟨r_11, σ_11, τ_11, q_11, h⟩ := bd_some h
      refine gx_cVi (As := [.int x2]) (rest := []) S hK gx_ok hw (c_X5_finish l (E := E) N σ_2 τ_2 x2 q_11) cw_X5_46 t_21 cl_6 ⟨Nat.le_of_ble_eq_true rfl, Nat.le_of_ble_eq_true rfl⟩ rfl hl.1 rfl (Nat.le_of_ble_eq_true rfl) ⟨Nat.le_of_ble_eq_true rfl, Nat.le_of_ble_eq_true rfl⟩ dX5_read_43 (fun r9 σ9 τ9 H locs hp hw => ?_)
      obtain ⟨rfl, rfl, rfl⟩ := hp
      obtain ⟨rfl, rfl, rfl⟩ := sm_inj h
      exact gx_ri (post := gq_p r_11 σ_11 τ_11) (v := r_11) S hr hlk hw rfl dX5_read_46 ⟨rfl, rfl, rfl⟩
set_option maxHeartbeats 4000000 in
set_option maxRecDepth 100000 in
theorem h_X5_read_27 (l : Launch) (S : CallFix P9 m9 C9 cX5_read 4 s av.toArray gx_G RX5) (hr : meth.sig.returnType = (some .int)) (hlk : meth.locks = false) (hK : gx_K E s) (N : Nat) : ∀ (n : Nat) (σ : gI) (τ : gJ) (x2 : Int32) (r : Int32) (σ1 : gI) (τ1 : gJ), H_X5_read_27 N n σ τ x2 = some (r, σ1, τ1) → ∀ (H : Heap) (locs : List Loc) (ls : Array Slot), gx_W gx_tb gx_tb.length E s σ τ H locs → lv_has ls 4 [(0, .ref (E.2.2 + 21)), (1, .ref (E.2.2 + 1)), (2, .int x2)] → W P9 l e9 (gx_rm 6) s m9 av.toArray below meth C9 H locs 0 0 (gq_Qi below av s E r σ1 τ1) (F0 m9 27 ls []) := by
  intro n
  induction n with
  | zero => intro σ τ x2 r σ1 τ1 h; cases h
  | succ n ih =>
    intro σ τ x2 r σ1 τ1 h H locs ls hw hl
    exact k_X5_read_27 l S hr hlk hK N (H_X5_read_27 N n) (fun σ τ x2 r σ1 τ1 H locs ls h hw hl => ih σ τ x2 r σ1 τ1 h H locs ls hw hl) σ τ x2 h hw hl
set_option maxHeartbeats 4000000 in
set_option maxRecDepth 100000 in
theorem b_X5_read_0 (l : Launch) (S : CallFix P9 m9 C9 cX5_read 4 s av.toArray gx_G RX5) (hr : meth.sig.returnType = (some .int)) (hlk : meth.locks = false) (hK : gx_K E s) (N : Nat) (σ : gI) (τ : gJ) {r : Int32} {σ1 : gI} {τ1 : gJ} (h : B_X5_read_0 N σ τ = some (r, σ1, τ1)) {H : Heap} {locs : List Loc} {ls : Array Slot} (hw : gx_W gx_tb gx_tb.length E s σ τ H locs) (hl : lv_has ls 4 [(0, .ref (E.2.2 + 21)), (1, .ref (E.2.2 + 1))]) : W P9 l e9 (gx_rm 6) s m9 av.toArray below meth C9 H locs 0 0 (gq_Qi below av s E r σ1 τ1) (F0 m9 0 ls []) := by
  have hx := S.1
  have hb := S.2.1
  unfold B_X5_read_0 at h
  refine lv_aload_n hx hb dX5_read_0 rfl (lv_at hl 0 rfl) ?_
  obtain ⟨u_1, σ_1, τ_1, q_1, h⟩ := bd_some h
  refine gx_cVv (As := []) (rest := []) S hK gx_ok hw (c_X5_clear l (E := E) N σ τ q_1) cw_X5_30 t_21 cl_6 ⟨Nat.le_of_ble_eq_true rfl, Nat.le_of_ble_eq_true rfl⟩ rfl hl.1 rfl (Nat.le_of_ble_eq_true rfl) ⟨Nat.le_of_ble_eq_true rfl, Nat.le_of_ble_eq_true rfl⟩ dX5_read_1 (fun σ9 τ9 H locs hp hw => ?_)
  obtain ⟨rfl, rfl⟩ := hp
  refine lv_aload_n hx hb dX5_read_4 rfl (lv_at hl 1 rfl) ?_
  refine lv_bipush (v := 40) hx hb dX5_read_5 (by decide) ?_
  obtain ⟨u_2, σ_2, τ_2, q_2, h⟩ := bd_some h
  refine gx_cVv (As := [.int 40]) (rest := []) S hK gx_ok hw (c_X7_showAtMost l (E := E) N σ_1 τ_1 40 q_2) cw_X5_33 t_1 cl_8 ⟨Nat.le_of_ble_eq_true rfl, Nat.le_of_ble_eq_true rfl⟩ rfl hl.1 rfl (Nat.le_of_ble_eq_true rfl) ⟨Nat.le_of_ble_eq_true rfl, Nat.le_of_ble_eq_true rfl⟩ dX5_read_7 (fun σ9 τ9 H locs hp hw => ?_)
  obtain ⟨rfl, rfl⟩ := hp
  refine lv_aload_n hx hb dX5_read_10 rfl (lv_at hl 1 rfl) ?_
  refine lv_iconst (v := 0) hx hb dX5_read_11 (by decide) ?_
  obtain ⟨r_3, σ_3, τ_3, q_3, h⟩ := bd_some h
  refine gx_cVi (As := [.int 0]) (rest := []) S hK gx_ok hw (c_X7_isOver l (E := E) N σ_2 τ_2 0 q_3) cw_X5_39 t_1 cl_8 ⟨Nat.le_of_ble_eq_true rfl, Nat.le_of_ble_eq_true rfl⟩ rfl hl.1 rfl (Nat.le_of_ble_eq_true rfl) ⟨Nat.le_of_ble_eq_true rfl, Nat.le_of_ble_eq_true rfl⟩ dX5_read_12 (fun r9 σ9 τ9 H locs hp hw => ?_)
  obtain ⟨rfl, rfl, rfl⟩ := hp
  refine lv_if_eq (tgt := 25) hx hb dX5_read_15 (by decide) (fun c_4 => ?_) (fun c_4 => ?_)
  · rw [if_pos c_4] at h
    refine lv_iconst (v := 0) hx hb dX5_read_25 (by decide) ?_
    refine lv_istore_n (lv' := [(2, .int 0), (0, .ref (E.2.2 + 21)), (1, .ref (E.2.2 + 1))]) hx hb dX5_read_26 rfl hl (by decide) rfl (fun ls hl => ?_)
    exact h_X5_read_27 l S hr hlk hK N N σ_3 τ_3 0 _ _ _ h _ _ _ hw (lv_sub hl [1, 2, 0] rfl)
  · rw [if_neg c_4] at h
    refine lv_aload_n hx hb dX5_read_18 rfl (lv_at hl 0 rfl) ?_
    refine lv_iconst (v := 0) hx hb dX5_read_19 (by decide) ?_
    obtain ⟨u_5, σ_5, τ_5, q_5, h⟩ := bd_some h
    refine gx_cVv (As := [.int 0]) (rest := []) S hK gx_ok hw (c_X5_addFact l (E := E) N σ_3 τ_3 0 q_5) cw_X5_43 t_21 cl_6 ⟨Nat.le_of_ble_eq_true rfl, Nat.le_of_ble_eq_true rfl⟩ rfl hl.1 rfl (Nat.le_of_ble_eq_true rfl) ⟨Nat.le_of_ble_eq_true rfl, Nat.le_of_ble_eq_true rfl⟩ dX5_read_20 (fun σ9 τ9 H locs hp hw => ?_)
    obtain ⟨rfl, rfl⟩ := hp
    refine lv_iconst (v := 0) hx hb dX5_read_23 (by decide) ?_
    obtain ⟨rfl, rfl, rfl⟩ := sm_inj h
    exact gx_ri (post := gq_p 0 σ_5 τ_5) (v := 0) S hr hlk hw rfl dX5_read_24 ⟨rfl, rfl, rfl⟩
set_option maxHeartbeats 4000000 in
set_option maxRecDepth 100000 in
theorem c_X5_read (l : Launch) {E : gE} (N : Nat) (σ : gI) (τ : gJ) {r : Int32} {σ1 : gI} {τ1 : gJ} (h : B_X5_read_0 N σ τ = some (r, σ1, τ1)) : gx_Mi l yX5_read cX5_read 4 (some .int) 6 gx_tb E σ τ [.ref (E.2.2 + 21), .ref (E.2.2 + 1)] (gq_p r σ1 τ1) := by
  refine gx_bi (by decide +kernel) (Nat.le_of_ble_eq_true rfl) ?_
  intro P9 e9 s m9 below meth C9 S hr hlk hK hw ls hl
  have hl : lv_has ls 4 [(0, .ref (E.2.2 + 21)), (1, .ref (E.2.2 + 1))] := hl
  exact b_X5_read_0 l S hr hlk hK N σ τ h hw hl
/-! X5_copy -/
def C_X5_copy_26 (N : Nat) (rec_26 : gI → gJ → Int32 → Option (Unit × gI × gJ)) (σ : gI) (τ : gJ) (x2 : Int32) : Option (Unit × gI × gJ) := if 40 ≤ x2 then (some ((), σ, τ)) else (ck x2 40 fun j_2 => nm (up2 σ 18 j_2 (σ 22 j_2)) fun σ_3 => nm (x2 + 1) fun v_4 => rec_26 σ_3 τ v_4)
def H_X5_copy_26 (N : Nat) : Nat → gI → gJ → Int32 → Option (Unit × gI × gJ) := itn (fun rec_26 => C_X5_copy_26 N rec_26) (fun _ _ _ => none)
def B_X5_copy_0 (N : Nat) (σ : gI) (τ : gJ) : Option (Unit × gI × gJ) := nm (up2 σ 17 3 (σ 21 3)) fun σ_1 => cb (σ_1 21 9) <| nm (up2 σ_1 17 9 (σ_1 21 9)) fun σ_3 => cb (σ_3 21 10) <| nm (up2 σ_3 17 10 (σ_3 21 10)) fun σ_5 => H_X5_copy_26 N N σ_5 τ 0
set_option maxHeartbeats 4000000 in
set_option maxRecDepth 100000 in
theorem k_X5_copy_26 (l : Launch) (S : CallFix P9 m9 C9 cX5_copy 3 s av.toArray gx_G RX5) (hr : meth.sig.returnType = none) (hlk : meth.locks = false) (hK : gx_K E s) (N : Nat) (rec_26 : gI → gJ → Int32 → Option (Unit × gI × gJ)) (hrec_26 : ∀ (σ : gI) (τ : gJ) (x2 : Int32) (r : Unit) (σ1 : gI) (τ1 : gJ) (H : Heap) (locs : List Loc) (ls : Array Slot), rec_26 σ τ x2 = some (r, σ1, τ1) → gx_W gx_tb gx_tb.length E s σ τ H locs → lv_has ls 3 [(0, .ref (E.2.2 + 17)), (1, .ref (E.2.2 + 21)), (2, .int x2)] → W P9 l e9 (gx_rm 0) s m9 av.toArray below meth C9 H locs 0 0 (gq_Qv below av s E σ1 τ1) (F0 m9 26 ls [])) (σ : gI) (τ : gJ) (x2 : Int32) {r : Unit} {σ1 : gI} {τ1 : gJ} (h : C_X5_copy_26 N rec_26 σ τ x2 = some (r, σ1, τ1)) {H : Heap} {locs : List Loc} {ls : Array Slot} (hw : gx_W gx_tb gx_tb.length E s σ τ H locs) (hl : lv_has ls 3 [(0, .ref (E.2.2 + 17)), (1, .ref (E.2.2 + 21)), (2, .int x2)]) : W P9 l e9 (gx_rm 0) s m9 av.toArray below meth C9 H locs 0 0 (gq_Qv below av s E σ1 τ1) (F0 m9 26 ls []) := by
  have hx := S.1
  have hb := S.2.1
  unfold C_X5_copy_26 at h
  refine lv_iload_n hx hb dX5_copy_26 rfl (lv_at hl 2 rfl) ?_
  refine lv_bipush (v := 40) hx hb dX5_copy_27 (by decide) ?_
  refine lv_icmp_ge (tgt := 50) hx hb dX5_copy_29 (by decide) (fun c_1 => ?_) (fun c_1 => ?_)
  · rw [if_pos c_1] at h
    obtain ⟨-, rfl, rfl⟩ := sm_inj h
    exact gx_rv (post := gq_v σ τ) S hr hlk hw dX5_copy_50 ⟨rfl, rfl⟩
  · rw [if_neg c_1] at h
    refine lv_aload_n hx hb dX5_copy_32 rfl (lv_at hl 0 rfl) ?_
    refine gx_getr (j := 18) S hK hw t_17 cl_6 0 (by decide) rfl mw_200 rfl dX5_copy_33 ?_
    refine lv_iload_n hx hb dX5_copy_36 rfl (lv_at hl 2 rfl) ?_
    refine lv_aload_n hx hb dX5_copy_37 rfl (lv_at hl 1 rfl) ?_
    refine gx_getr (j := 22) S hK hw t_21 cl_6 0 (by decide) rfl mw_200 rfl dX5_copy_38 ?_
    refine lv_iload_n hx hb dX5_copy_41 rfl (lv_at hl 2 rfl) ?_
    obtain ⟨j_2, hj_2, hi_2, h⟩ := ck_some h
    refine gx_iald S hK hw t_22 j_2 hj_2 hi_2 dX5_copy_42 ?_
    refine gx_iast S hK gx_ok hw t_18 j_2 hj_2 hi_2 dX5_copy_43 (fun H locs hw => ?_)
    obtain ⟨σ_3, e_3, h⟩ := nm_some h
    rw [← e_3] at hw
    refine lv_iinc (v := x2 + 1) (lv' := [(2, .int (x2 + 1)), (0, .ref (E.2.2 + 17)), (1, .ref (E.2.2 + 21))]) hx hb dX5_copy_44 hl (k := 2) rfl rfl (by decide) rfl (fun ls hl => ?_)
    obtain ⟨v_4, e_4, h⟩ := nm_some h
    have hl : lv_has ls 3 [(2, .int v_4), (0, .ref (E.2.2 + 17)), (1, .ref (E.2.2 + 21))] := by rw [e_4]; exact hl
    refine lv_goto (tgt := 26) hx hb dX5_copy_47 (by decide) ?_
    exact hrec_26 σ_3 τ v_4 _ _ _ _ _ _ h hw (lv_sub hl [1, 2, 0] rfl)
set_option maxHeartbeats 4000000 in
set_option maxRecDepth 100000 in
theorem h_X5_copy_26 (l : Launch) (S : CallFix P9 m9 C9 cX5_copy 3 s av.toArray gx_G RX5) (hr : meth.sig.returnType = none) (hlk : meth.locks = false) (hK : gx_K E s) (N : Nat) : ∀ (n : Nat) (σ : gI) (τ : gJ) (x2 : Int32) (r : Unit) (σ1 : gI) (τ1 : gJ), H_X5_copy_26 N n σ τ x2 = some (r, σ1, τ1) → ∀ (H : Heap) (locs : List Loc) (ls : Array Slot), gx_W gx_tb gx_tb.length E s σ τ H locs → lv_has ls 3 [(0, .ref (E.2.2 + 17)), (1, .ref (E.2.2 + 21)), (2, .int x2)] → W P9 l e9 (gx_rm 0) s m9 av.toArray below meth C9 H locs 0 0 (gq_Qv below av s E σ1 τ1) (F0 m9 26 ls []) := by
  intro n
  induction n with
  | zero => intro σ τ x2 r σ1 τ1 h; cases h
  | succ n ih =>
    intro σ τ x2 r σ1 τ1 h H locs ls hw hl
    exact k_X5_copy_26 l S hr hlk hK N (H_X5_copy_26 N n) (fun σ τ x2 r σ1 τ1 H locs ls h hw hl => ih σ τ x2 r σ1 τ1 h H locs ls hw hl) σ τ x2 h hw hl
set_option maxHeartbeats 4000000 in
set_option maxRecDepth 100000 in
theorem b_X5_copy_0 (l : Launch) (S : CallFix P9 m9 C9 cX5_copy 3 s av.toArray gx_G RX5) (hr : meth.sig.returnType = none) (hlk : meth.locks = false) (hK : gx_K E s) (N : Nat) (σ : gI) (τ : gJ) {r : Unit} {σ1 : gI} {τ1 : gJ} (h : B_X5_copy_0 N σ τ = some (r, σ1, τ1)) {H : Heap} {locs : List Loc} {ls : Array Slot} (hw : gx_W gx_tb gx_tb.length E s σ τ H locs) (hl : lv_has ls 3 [(0, .ref (E.2.2 + 17)), (1, .ref (E.2.2 + 21))]) : W P9 l e9 (gx_rm 0) s m9 av.toArray below meth C9 H locs 0 0 (gq_Qv below av s E σ1 τ1) (F0 m9 0 ls []) := by
  have hx := S.1
  have hb := S.2.1
  unfold B_X5_copy_0 at h
  refine lv_aload_n hx hb dX5_copy_0 rfl (lv_at hl 0 rfl) ?_
  refine lv_aload_n hx hb dX5_copy_1 rfl (lv_at hl 1 rfl) ?_
  refine gx_get S hK hw t_21 cl_6 3 (by decide) rfl mw_203 rfl dX5_copy_2 ?_
  refine gx_put S hK gx_ok hw t_17 cl_6 3 (by decide) rfl mw_203 rfl rfl (ty := .int) (v := σ 21 3) (by decide +kernel) rfl rfl dX5_copy_5 (fun H locs hw => ?_)
  obtain ⟨σ_1, e_1, h⟩ := nm_some h
  rw [← e_1] at hw
  refine lv_aload_n hx hb dX5_copy_8 rfl (lv_at hl 0 rfl) ?_
  refine lv_aload_n hx hb dX5_copy_9 rfl (lv_at hl 1 rfl) ?_
  refine gx_get S hK hw t_21 cl_6 9 (by decide) rfl mw_209 rfl dX5_copy_10 ?_
  obtain ⟨hq_2, h⟩ := cb_some h
  refine gx_put S hK gx_ok hw t_17 cl_6 9 (by decide) rfl mw_209 rfl rfl (ty := .boolean) (v := σ_1 21 9) (by decide +kernel) (cb_nar hq_2) (cb_fit hq_2) dX5_copy_13 (fun H locs hw => ?_)
  obtain ⟨σ_3, e_3, h⟩ := nm_some h
  rw [← e_3] at hw
  refine lv_aload_n hx hb dX5_copy_16 rfl (lv_at hl 0 rfl) ?_
  refine lv_aload_n hx hb dX5_copy_17 rfl (lv_at hl 1 rfl) ?_
  refine gx_get S hK hw t_21 cl_6 10 (by decide) rfl mw_212 rfl dX5_copy_18 ?_
  obtain ⟨hq_4, h⟩ := cb_some h
  refine gx_put S hK gx_ok hw t_17 cl_6 10 (by decide) rfl mw_212 rfl rfl (ty := .boolean) (v := σ_3 21 10) (by decide +kernel) (cb_nar hq_4) (cb_fit hq_4) dX5_copy_21 (fun H locs hw => ?_)
  obtain ⟨σ_5, e_5, h⟩ := nm_some h
  rw [← e_5] at hw
  refine lv_iconst (v := 0) hx hb dX5_copy_24 (by decide) ?_
  refine lv_istore_n (lv' := [(2, .int 0), (0, .ref (E.2.2 + 17)), (1, .ref (E.2.2 + 21))]) hx hb dX5_copy_25 rfl hl (by decide) rfl (fun ls hl => ?_)
  exact h_X5_copy_26 l S hr hlk hK N N σ_5 τ 0 _ _ _ h _ _ _ hw (lv_sub hl [1, 2, 0] rfl)
set_option maxHeartbeats 4000000 in
set_option maxRecDepth 100000 in
theorem c_X5_copy (l : Launch) {E : gE} (N : Nat) (σ : gI) (τ : gJ) {r : Unit} {σ1 : gI} {τ1 : gJ} (h : B_X5_copy_0 N σ τ = some (r, σ1, τ1)) : gx_Mv l yX5_copy cX5_copy 3 none 0 gx_tb E σ τ [.ref (E.2.2 + 17), .ref (E.2.2 + 21)] (gq_v σ1 τ1) := by
  refine gx_bv (by decide +kernel) (Nat.le_of_ble_eq_true rfl) ?_
  intro P9 e9 s m9 below meth C9 S hr hlk hK hw ls hl
  have hl : lv_has ls 3 [(0, .ref (E.2.2 + 17)), (1, .ref (E.2.2 + 21))] := hl
  exact b_X5_copy_0 l S hr hlk hK N σ τ h hw hl
/-! X11_rule -/
def B_X11_rule_0 (N : Nat) (σ : gI) (τ : gJ) : Option (Int32 × gI × gJ) := bd (B_X5_read_0 N σ τ) fun r_1 σ_1 τ_1 => bd (B_X7_cut_0 N σ_1 τ_1 0) fun r_2 σ_2 τ_2 => if r_1 < 0 then (some (r_1, σ_2, τ_2)) else (bd (B_X5_copy_0 N σ_2 τ_2) fun _ σ_4 τ_4 => some (r_1, σ_4, τ_4))
set_option maxHeartbeats 4000000 in
set_option maxRecDepth 100000 in
theorem b_X11_rule_0 (l : Launch) (S : CallFix P9 m9 C9 cX11_rule 2 s av.toArray gx_G RX11) (hr : meth.sig.returnType = (some .int)) (hlk : meth.locks = false) (hK : gx_K E s) (N : Nat) (σ : gI) (τ : gJ) {r : Int32} {σ1 : gI} {τ1 : gJ} (h : B_X11_rule_0 N σ τ = some (r, σ1, τ1)) {H : Heap} {locs : List Loc} {ls : Array Slot} (hw : gx_W gx_tb gx_tb.length E s σ τ H locs) (hl : lv_has ls 2 [(0, .ref (E.2.2 + 0))]) : W P9 l e9 (gx_rm 7) s m9 av.toArray below meth C9 H locs 0 0 (gq_Qi below av s E r σ1 τ1) (F0 m9 0 ls []) := by
  have hx := S.1
  have hb := S.2.1
  unfold B_X11_rule_0 at h
  refine lv_aload_n hx hb dX11_rule_0 rfl (lv_at hl 0 rfl) ?_
  refine gx_getr (j := 21) S hK hw t_0 cl_12 5 (by decide) rfl mw_452 rfl dX11_rule_1 ?_
  refine lv_aload_n hx hb dX11_rule_4 rfl (lv_at hl 0 rfl) ?_
  refine gx_getr (j := 1) S hK hw t_0 cl_12 0 (by decide) rfl mw_447 rfl dX11_rule_5 ?_
  obtain ⟨r_1, σ_1, τ_1, q_1, h⟩ := bd_some h
  refine gx_cVi (As := [.ref (E.2.2 + 1)]) (rest := []) S hK gx_ok hw (c_X5_read l (E := E) N σ τ q_1) cw_X11_133 t_21 cl_6 ⟨Nat.le_of_ble_eq_true rfl, Nat.le_of_ble_eq_true rfl⟩ rfl hl.1 rfl (Nat.le_of_ble_eq_true rfl) ⟨Nat.le_of_ble_eq_true rfl, Nat.le_of_ble_eq_true rfl⟩ dX11_rule_8 (fun r9 σ9 τ9 H locs hp hw => ?_)
  obtain ⟨rfl, rfl, rfl⟩ := hp
  refine lv_istore_n (lv' := [(1, .int r_1), (0, .ref (E.2.2 + 0))]) hx hb dX11_rule_11 rfl hl (by decide) rfl (fun ls hl => ?_)
  refine lv_aload_n hx hb dX11_rule_12 rfl (lv_at hl 1 rfl) ?_
  refine gx_getr (j := 1) S hK hw t_0 cl_12 0 (by decide) rfl mw_447 rfl dX11_rule_13 ?_
  refine lv_iconst (v := 0) hx hb dX11_rule_16 (by decide) ?_
  obtain ⟨r_2, σ_2, τ_2, q_2, h⟩ := bd_some h
  refine gx_cVi (As := [.int 0]) (rest := []) S hK gx_ok hw (c_X7_cut l (E := E) N σ_1 τ_1 0 q_2) cw_X11_111 t_1 cl_8 ⟨Nat.le_of_ble_eq_true rfl, Nat.le_of_ble_eq_true rfl⟩ rfl hl.1 rfl (Nat.le_of_ble_eq_true rfl) ⟨Nat.le_of_ble_eq_true rfl, Nat.le_of_ble_eq_true rfl⟩ dX11_rule_17 (fun r9 σ9 τ9 H locs hp hw => ?_)
  obtain ⟨rfl, rfl, rfl⟩ := hp
  refine lv_pop hx hb dX11_rule_20 rfl ?_
  refine lv_iload_n hx hb dX11_rule_21 rfl (lv_at hl 0 rfl) ?_
  refine lv_if_lt (tgt := 36) hx hb dX11_rule_22 (by decide) (fun c_3 => ?_) (fun c_3 => ?_)
  · rw [if_pos c_3] at h
    refine lv_iload_n hx hb dX11_rule_36 rfl (lv_at hl 0 rfl) ?_
    obtain ⟨rfl, rfl, rfl⟩ := sm_inj h
    exact gx_ri (post := gq_p r_1 σ_2 τ_2) (v := r_1) S hr hlk hw rfl dX11_rule_37 ⟨rfl, rfl, rfl⟩
  · rw [if_neg c_3] at h
    refine lv_aload_n hx hb dX11_rule_25 rfl (lv_at hl 1 rfl) ?_
    refine gx_getr (j := 17) S hK hw t_0 cl_12 4 (by decide) rfl mw_451 rfl dX11_rule_26 ?_
    refine lv_aload_n hx hb dX11_rule_29 rfl (lv_at hl 1 rfl) ?_
    refine gx_getr (j := 21) S hK hw t_0 cl_12 5 (by decide) rfl mw_452 rfl dX11_rule_30 ?_
    obtain ⟨u_4, σ_4, τ_4, q_4, h⟩ := bd_some h
    refine gx_cVv (As := [.ref (E.2.2 + 21)]) (rest := []) S hK gx_ok hw (c_X5_copy l (E := E) N σ_2 τ_2 q_4) cw_X11_134 t_17 cl_6 ⟨Nat.le_of_ble_eq_true rfl, Nat.le_of_ble_eq_true rfl⟩ rfl hl.1 rfl (Nat.le_of_ble_eq_true rfl) ⟨Nat.le_of_ble_eq_true rfl, Nat.le_of_ble_eq_true rfl⟩ dX11_rule_33 (fun σ9 τ9 H locs hp hw => ?_)
    obtain ⟨rfl, rfl⟩ := hp
    refine lv_iload_n hx hb dX11_rule_36 rfl (lv_at hl 0 rfl) ?_
    obtain ⟨rfl, rfl, rfl⟩ := sm_inj h
    exact gx_ri (post := gq_p r_1 σ_4 τ_4) (v := r_1) S hr hlk hw rfl dX11_rule_37 ⟨rfl, rfl, rfl⟩
set_option maxHeartbeats 4000000 in
set_option maxRecDepth 100000 in
theorem c_X11_rule (l : Launch) {E : gE} (N : Nat) (σ : gI) (τ : gJ) {r : Int32} {σ1 : gI} {τ1 : gJ} (h : B_X11_rule_0 N σ τ = some (r, σ1, τ1)) : gx_Mi l yX11_rule cX11_rule 2 (some .int) 7 gx_tb E σ τ [.ref (E.2.2 + 0)] (gq_p r σ1 τ1) := by
  refine gx_bi (by decide +kernel) (Nat.le_of_ble_eq_true rfl) ?_
  intro P9 e9 s m9 below meth C9 S hr hlk hK hw ls hl
  have hl : lv_has ls 2 [(0, .ref (E.2.2 + 0))] := hl
  exact b_X11_rule_0 l S hr hlk hK N σ τ h hw hl
/-! X11_run -/
def B_X11_run_27 (N : Nat) (σ : gI) (τ : gJ) (x1 : Int32) : Option (Int32 × gI × gJ) := nm (σ 30 9) fun v_1 => nm (σ 30 10) fun v_2 => bd (B_X11_passMinutes_0 N σ τ x1) fun _ σ_3 τ_3 => nm ((σ_3 30 9) &&& (v_1 ^^^ (-1))) fun v_4 => bd (B_X4_tell__0 N σ_3 τ_3 v_4.toInt64 (((σ_3 30 10) &&& (v_2 ^^^ (-1))).toInt64)) fun _ σ_5 τ_5 => bd (B_J6_bitCount_0f7a4_0 N σ_5 τ_5 v_4) fun r_6 σ_6 τ_6 => some (r_6, σ_6, τ_6)
def B_X11_run_0 (N : Nat) (σ : gI) (τ : gJ) (x1 : Int32) : Option (Int32 × gI × gJ) := if x1 < 0 then (some ((-1), σ, τ)) else (if x1 ≤ 99 then (if x1 ≤ 0 then (B_X11_run_27 N σ τ x1) else (bd (B_X3_push_0 N 30 σ τ) fun _ σ_4 τ_4 => B_X11_run_27 N σ_4 τ_4 x1)) else (some ((-1), σ, τ)))
set_option maxHeartbeats 4000000 in
set_option maxRecDepth 100000 in
theorem b_X11_run_27 (l : Launch) (S : CallFix P9 m9 C9 cX11_run 5 s av.toArray gx_G RX11) (hr : meth.sig.returnType = (some .int)) (hlk : meth.locks = false) (hK : gx_K E s) (N : Nat) (σ : gI) (τ : gJ) (x1 : Int32) {r : Int32} {σ1 : gI} {τ1 : gJ} (h : B_X11_run_27 N σ τ x1 = some (r, σ1, τ1)) {H : Heap} {locs : List Loc} {ls : Array Slot} (hw : gx_W gx_tb gx_tb.length E s σ τ H locs) (hl : lv_has ls 5 [(0, .ref (E.2.2 + 0)), (1, .int x1)]) : W P9 l e9 (gx_rm 5) s m9 av.toArray below meth C9 H locs 0 0 (gq_Qi below av s E r σ1 τ1) (F0 m9 27 ls []) := by
  have hx := S.1
  have hb := S.2.1
  unfold B_X11_run_27 at h
  refine lv_aload_n hx hb dX11_run_27 rfl (lv_at hl 0 rfl) ?_
  refine gx_getr (j := 30) S hK hw t_0 cl_12 7 (by decide) rfl mw_454 rfl dX11_run_28 ?_
  refine gx_get S hK hw t_30 cl_7 9 (by decide) rfl mw_283 rfl dX11_run_31 ?_
  refine lv_istore_n (lv' := [(2, .int (σ 30 9)), (0, .ref (E.2.2 + 0)), (1, .int x1)]) hx hb dX11_run_34 rfl hl (by decide) rfl (fun ls hl => ?_)
  obtain ⟨v_1, e_1, h⟩ := nm_some h
  have hl : lv_has ls 5 [(2, .int v_1), (0, .ref (E.2.2 + 0)), (1, .int x1)] := by rw [e_1]; exact hl
  refine lv_aload_n hx hb dX11_run_35 rfl (lv_at hl 1 rfl) ?_
  refine gx_getr (j := 30) S hK hw t_0 cl_12 7 (by decide) rfl mw_454 rfl dX11_run_36 ?_
  refine gx_get S hK hw t_30 cl_7 10 (by decide) rfl mw_286 rfl dX11_run_39 ?_
  refine lv_istore_n (lv' := [(3, .int (σ 30 10)), (2, .int v_1), (0, .ref (E.2.2 + 0)), (1, .int x1)]) hx hb dX11_run_42 rfl hl (by decide) rfl (fun ls hl => ?_)
  obtain ⟨v_2, e_2, h⟩ := nm_some h
  have hl : lv_has ls 5 [(3, .int v_2), (2, .int v_1), (0, .ref (E.2.2 + 0)), (1, .int x1)] := by rw [e_2]; exact hl
  refine lv_aload_n hx hb dX11_run_43 rfl (lv_at hl 2 rfl) ?_
  refine lv_iload_n hx hb dX11_run_44 rfl (lv_at hl 3 rfl) ?_
  obtain ⟨u_3, σ_3, τ_3, q_3, h⟩ := bd_some h
  refine gx_cVv (As := [.int x1]) (rest := []) S hK gx_ok hw (c_X11_passMinutes l (E := E) N σ τ x1 q_3) cw_X11_253 t_0 cl_12 ⟨Nat.le_of_ble_eq_true rfl, Nat.le_of_ble_eq_true rfl⟩ rfl hl.1 rfl (Nat.le_of_ble_eq_true rfl) ⟨Nat.le_of_ble_eq_true rfl, Nat.le_of_ble_eq_true rfl⟩ dX11_run_45 (fun σ9 τ9 H locs hp hw => ?_)
  obtain ⟨rfl, rfl⟩ := hp
  refine lv_aload_n hx hb dX11_run_48 rfl (lv_at hl 2 rfl) ?_
  refine gx_getr (j := 30) S hK hw t_0 cl_12 7 (by decide) rfl mw_454 rfl dX11_run_49 ?_
  refine gx_get S hK hw t_30 cl_7 9 (by decide) rfl mw_283 rfl dX11_run_52 ?_
  refine lv_iload_n hx hb dX11_run_55 rfl (lv_at hl 1 rfl) ?_
  refine lv_iconst (v := (-1)) hx hb dX11_run_56 (by decide) ?_
  refine lv_ixor hx hb dX11_run_57 ?_
  refine lv_iand hx hb dX11_run_58 ?_
  refine lv_istore (lv' := [(4, .int ((σ_3 30 9) &&& (v_1 ^^^ (-1)))), (3, .int v_2), (2, .int v_1), (0, .ref (E.2.2 + 0)), (1, .int x1)]) hx hb dX11_run_59 hl (by decide) rfl (fun ls hl => ?_)
  obtain ⟨v_4, e_4, h⟩ := nm_some h
  have hl : lv_has ls 5 [(4, .int v_4), (3, .int v_2), (2, .int v_1), (0, .ref (E.2.2 + 0)), (1, .int x1)] := by rw [e_4]; exact hl
  refine lv_aload_n hx hb dX11_run_61 rfl (lv_at hl 3 rfl) ?_
  refine gx_getr (j := 156) S hK hw t_0 cl_12 13 (by decide) rfl mw_460 rfl dX11_run_62 ?_
  refine lv_iload hx hb dX11_run_65 (lv_at hl 0 rfl) ?_
  refine lv_i2l (v := v_4.toInt64) hx hb dX11_run_67 rfl ?_
  refine lv_aload_n hx hb dX11_run_68 rfl (lv_at hl 3 rfl) ?_
  refine gx_getr (j := 30) S hK hw t_0 cl_12 7 (by decide) rfl mw_454 rfl dX11_run_69 ?_
  refine gx_get S hK hw t_30 cl_7 10 (by decide) rfl mw_286 rfl dX11_run_72 ?_
  refine lv_iload_n hx hb dX11_run_75 rfl (lv_at hl 1 rfl) ?_
  refine lv_iconst (v := (-1)) hx hb dX11_run_76 (by decide) ?_
  refine lv_ixor hx hb dX11_run_77 ?_
  refine lv_iand hx hb dX11_run_78 ?_
  refine lv_i2l (v := ((σ_3 30 10) &&& (v_2 ^^^ (-1))).toInt64) hx hb dX11_run_79 rfl ?_
  obtain ⟨u_5, σ_5, τ_5, q_5, h⟩ := bd_some h
  refine gx_cVv (As := [.long v_4.toInt64, .long (((σ_3 30 10) &&& (v_2 ^^^ (-1))).toInt64)]) (rest := []) S hK gx_ok hw (c_X4_tell_ l (E := E) N σ_3 τ_3 v_4.toInt64 (((σ_3 30 10) &&& (v_2 ^^^ (-1))).toInt64) q_5) cw_X11_257 t_156 cl_5 ⟨Nat.le_of_ble_eq_true rfl, Nat.le_of_ble_eq_true rfl⟩ rfl hl.1 rfl (Nat.le_of_ble_eq_true rfl) ⟨Nat.le_of_ble_eq_true rfl, Nat.le_of_ble_eq_true rfl⟩ dX11_run_80 (fun σ9 τ9 H locs hp hw => ?_)
  obtain ⟨rfl, rfl⟩ := hp
  refine lv_iload hx hb dX11_run_83 (lv_at hl 0 rfl) ?_
  obtain ⟨r_6, σ_6, τ_6, q_6, h⟩ := bd_some h
  refine gx_cSi (As := [.int v_4]) (rest := []) S hK gx_ok hw (c_J6_bitCount_0f7a4 l (E := E) N σ_5 τ_5 v_4 q_6) cw_X11_261 ⟨Nat.le_of_ble_eq_true rfl, Nat.le_of_ble_eq_true rfl⟩ rfl hl.1 rfl (Nat.le_of_ble_eq_true rfl) ⟨Nat.le_of_ble_eq_true rfl, Nat.le_of_ble_eq_true rfl⟩ dX11_run_85 (fun r9 σ9 τ9 H locs hp hw => ?_)
  obtain ⟨rfl, rfl, rfl⟩ := hp
  obtain ⟨rfl, rfl, rfl⟩ := sm_inj h
  exact gx_ri (post := gq_p r_6 σ_6 τ_6) (v := r_6) S hr hlk hw rfl dX11_run_88 ⟨rfl, rfl, rfl⟩
set_option maxHeartbeats 4000000 in
set_option maxRecDepth 100000 in
theorem b_X11_run_0 (l : Launch) (S : CallFix P9 m9 C9 cX11_run 5 s av.toArray gx_G RX11) (hr : meth.sig.returnType = (some .int)) (hlk : meth.locks = false) (hK : gx_K E s) (N : Nat) (σ : gI) (τ : gJ) (x1 : Int32) {r : Int32} {σ1 : gI} {τ1 : gJ} (h : B_X11_run_0 N σ τ x1 = some (r, σ1, τ1)) {H : Heap} {locs : List Loc} {ls : Array Slot} (hw : gx_W gx_tb gx_tb.length E s σ τ H locs) (hl : lv_has ls 5 [(0, .ref (E.2.2 + 0)), (1, .int x1)]) : W P9 l e9 (gx_rm 5) s m9 av.toArray below meth C9 H locs 0 0 (gq_Qi below av s E r σ1 τ1) (F0 m9 0 ls []) := by
  have hx := S.1
  have hb := S.2.1
  unfold B_X11_run_0 at h
  refine lv_iload_n hx hb dX11_run_0 rfl (lv_at hl 1 rfl) ?_
  refine lv_if_lt (tgt := 10) hx hb dX11_run_1 (by decide) (fun c_1 => ?_) (fun c_1 => ?_)
  · rw [if_pos c_1] at h
    refine lv_iconst (v := (-1)) hx hb dX11_run_10 (by decide) ?_
    obtain ⟨rfl, rfl, rfl⟩ := sm_inj h
    exact gx_ri (post := gq_p (-1) σ τ) (v := (-1)) S hr hlk hw rfl dX11_run_11 ⟨rfl, rfl, rfl⟩
  · rw [if_neg c_1] at h
    refine lv_iload_n hx hb dX11_run_4 rfl (lv_at hl 1 rfl) ?_
    refine lv_bipush (v := 99) hx hb dX11_run_5 (by decide) ?_
    refine lv_icmp_le (tgt := 12) hx hb dX11_run_7 (by decide) (fun c_2 => ?_) (fun c_2 => ?_)
    · rw [if_pos c_2] at h
      refine lv_iload_n hx hb dX11_run_12 rfl (lv_at hl 1 rfl) ?_
      refine lv_if_le (tgt := 27) hx hb dX11_run_13 (by decide) (fun c_3 => ?_) (fun c_3 => ?_)
      · rw [if_pos c_3] at h
        exact b_X11_run_27 l S hr hlk hK N σ τ x1 h hw (lv_sub hl [0, 1] rfl)
      · rw [if_neg c_3] at h
        refine lv_aload_n hx hb dX11_run_16 rfl (lv_at hl 0 rfl) ?_
        refine gx_getr (j := 44) S hK hw t_0 cl_12 9 (by decide) rfl mw_456 rfl dX11_run_17 ?_
        refine lv_aload_n hx hb dX11_run_20 rfl (lv_at hl 0 rfl) ?_
        refine gx_getr (j := 30) S hK hw t_0 cl_12 7 (by decide) rfl mw_454 rfl dX11_run_21 ?_
        obtain ⟨u_4, σ_4, τ_4, q_4, h⟩ := bd_some h
        refine gx_cVv (As := [.ref (E.2.2 + 30)]) (rest := []) S hK gx_ok hw (c_X3_push l (E := E) N 30 is_30 σ τ q_4) cw_X11_204 t_44 cl_4 ⟨Nat.le_of_ble_eq_true rfl, Nat.le_of_ble_eq_true rfl⟩ rfl hl.1 rfl (Nat.le_of_ble_eq_true rfl) ⟨Nat.le_of_ble_eq_true rfl, Nat.le_of_ble_eq_true rfl⟩ dX11_run_24 (fun σ9 τ9 H locs hp hw => ?_)
        obtain ⟨rfl, rfl⟩ := hp
        exact b_X11_run_27 l S hr hlk hK N σ_4 τ_4 x1 h hw (lv_sub hl [0, 1] rfl)
    · rw [if_neg c_2] at h
      refine lv_iconst (v := (-1)) hx hb dX11_run_10 (by decide) ?_
      obtain ⟨rfl, rfl, rfl⟩ := sm_inj h
      exact gx_ri (post := gq_p (-1) σ τ) (v := (-1)) S hr hlk hw rfl dX11_run_11 ⟨rfl, rfl, rfl⟩
set_option maxHeartbeats 4000000 in
set_option maxRecDepth 100000 in
theorem c_X11_run (l : Launch) {E : gE} (N : Nat) (σ : gI) (τ : gJ) (x1 : Int32) {r : Int32} {σ1 : gI} {τ1 : gJ} (h : B_X11_run_0 N σ τ x1 = some (r, σ1, τ1)) : gx_Mi l yX11_run cX11_run 5 (some .int) 5 gx_tb E σ τ [.ref (E.2.2 + 0), .int x1] (gq_p r σ1 τ1) := by
  refine gx_bi (by decide +kernel) (Nat.le_of_ble_eq_true rfl) ?_
  intro P9 e9 s m9 below meth C9 S hr hlk hK hw ls hl
  have hl : lv_has ls 5 [(0, .ref (E.2.2 + 0)), (1, .int x1)] := hl
  exact b_X11_run_0 l S hr hlk hK N σ τ x1 h hw hl
/-! X11_sail -/
def B_X11_sail_0 (N : Nat) (σ : gI) (τ : gJ) (x1 : Int32) (x2 : Int32) (x3 : Int32) (x4 : Int32) (x5 : Int32) : Option (Int32 × gI × gJ) := bd (B_X8_has_0 N σ τ x1) fun r_1 σ_1 τ_1 => if r_1 = 0 then (some ((-1), σ_1, τ_1)) else (bd (B_X11_isLoad_0 N σ_1 τ_1 x2 x3) fun r_3 σ_3 τ_3 => if r_3 = 0 then (some ((-1), σ_3, τ_3)) else (bd (B_X11_isWait_0 N σ_3 τ_3 x4) fun r_5 σ_5 τ_5 => if r_5 = 0 then (some ((-1), σ_5, τ_5)) else (bd (B_X8_isKitchen_0 N σ_5 τ_5 x5) fun r_7 σ_7 τ_7 => if r_7 = 0 then (some ((-1), σ_7, τ_7)) else (bd (B_X11_sailed_0 N σ_7 τ_7 x1 x2 x3 x4) fun r_9 σ_9 τ_9 => bd (B_X11_isIn_0 N σ_9 τ_9 r_9 x5) fun r_10 σ_10 τ_10 => if r_10 = 0 then (some ((-2), σ_10, τ_10)) else (bd (B_X11_minutesOf_0 N σ_10 τ_10 r_9) fun r_12 σ_12 τ_12 => some (r_12, σ_12, τ_12))))))
set_option maxHeartbeats 4000000 in
set_option maxRecDepth 100000 in
theorem b_X11_sail_0 (l : Launch) (S : CallFix P9 m9 C9 cX11_sail 7 s av.toArray gx_G RX11) (hr : meth.sig.returnType = (some .int)) (hlk : meth.locks = false) (hK : gx_K E s) (N : Nat) (σ : gI) (τ : gJ) (x1 : Int32) (x2 : Int32) (x3 : Int32) (x4 : Int32) (x5 : Int32) {r : Int32} {σ1 : gI} {τ1 : gJ} (h : B_X11_sail_0 N σ τ x1 x2 x3 x4 x5 = some (r, σ1, τ1)) {H : Heap} {locs : List Loc} {ls : Array Slot} (hw : gx_W gx_tb gx_tb.length E s σ τ H locs) (hl : lv_has ls 7 [(0, .ref (E.2.2 + 0)), (1, .int x1), (2, .int x2), (3, .int x3), (4, .int x4), (5, .int x5)]) : W P9 l e9 (gx_rm 6) s m9 av.toArray below meth C9 H locs 0 0 (gq_Qi below av s E r σ1 τ1) (F0 m9 0 ls []) := by
  have hx := S.1
  have hb := S.2.1
  unfold B_X11_sail_0 at h
  refine lv_aload_n hx hb dX11_sail_0 rfl (lv_at hl 0 rfl) ?_
  refine gx_getr (j := 3) S hK hw t_0 cl_12 1 (by decide) rfl mw_448 rfl dX11_sail_1 ?_
  refine lv_iload_n hx hb dX11_sail_4 rfl (lv_at hl 1 rfl) ?_
  obtain ⟨r_1, σ_1, τ_1, q_1, h⟩ := bd_some h
  refine gx_cVi (As := [.int x1]) (rest := []) S hK gx_ok hw (c_X8_has l (E := E) N σ τ x1 q_1) cw_X11_137 t_3 cl_9 ⟨Nat.le_of_ble_eq_true rfl, Nat.le_of_ble_eq_true rfl⟩ rfl hl.1 rfl (Nat.le_of_ble_eq_true rfl) ⟨Nat.le_of_ble_eq_true rfl, Nat.le_of_ble_eq_true rfl⟩ dX11_sail_5 (fun r9 σ9 τ9 H locs hp hw => ?_)
  obtain ⟨rfl, rfl, rfl⟩ := hp
  refine lv_if_eq (tgt := 39) hx hb dX11_sail_8 (by decide) (fun c_2 => ?_) (fun c_2 => ?_)
  · rw [if_pos c_2] at h
    refine lv_iconst (v := (-1)) hx hb dX11_sail_39 (by decide) ?_
    obtain ⟨rfl, rfl, rfl⟩ := sm_inj h
    exact gx_ri (post := gq_p (-1) σ_1 τ_1) (v := (-1)) S hr hlk hw rfl dX11_sail_40 ⟨rfl, rfl, rfl⟩
  · rw [if_neg c_2] at h
    refine lv_iload_n hx hb dX11_sail_11 rfl (lv_at hl 2 rfl) ?_
    refine lv_iload_n hx hb dX11_sail_12 rfl (lv_at hl 3 rfl) ?_
    obtain ⟨r_3, σ_3, τ_3, q_3, h⟩ := bd_some h
    refine gx_cSi (As := [.int x2, .int x3]) (rest := []) S hK gx_ok hw (c_X11_isLoad l (E := E) N σ_1 τ_1 x2 x3 q_3) cw_X11_227 ⟨Nat.le_of_ble_eq_true rfl, Nat.le_of_ble_eq_true rfl⟩ rfl hl.1 rfl (Nat.le_of_ble_eq_true rfl) ⟨Nat.le_of_ble_eq_true rfl, Nat.le_of_ble_eq_true rfl⟩ dX11_sail_13 (fun r9 σ9 τ9 H locs hp hw => ?_)
    obtain ⟨rfl, rfl, rfl⟩ := hp
    refine lv_if_eq (tgt := 39) hx hb dX11_sail_16 (by decide) (fun c_4 => ?_) (fun c_4 => ?_)
    · rw [if_pos c_4] at h
      refine lv_iconst (v := (-1)) hx hb dX11_sail_39 (by decide) ?_
      obtain ⟨rfl, rfl, rfl⟩ := sm_inj h
      exact gx_ri (post := gq_p (-1) σ_3 τ_3) (v := (-1)) S hr hlk hw rfl dX11_sail_40 ⟨rfl, rfl, rfl⟩
    · rw [if_neg c_4] at h
      refine lv_iload hx hb dX11_sail_19 (lv_at hl 4 rfl) ?_
      obtain ⟨r_5, σ_5, τ_5, q_5, h⟩ := bd_some h
      refine gx_cSi (As := [.int x4]) (rest := []) S hK gx_ok hw (c_X11_isWait l (E := E) N σ_3 τ_3 x4 q_5) cw_X11_231 ⟨Nat.le_of_ble_eq_true rfl, Nat.le_of_ble_eq_true rfl⟩ rfl hl.1 rfl (Nat.le_of_ble_eq_true rfl) ⟨Nat.le_of_ble_eq_true rfl, Nat.le_of_ble_eq_true rfl⟩ dX11_sail_21 (fun r9 σ9 τ9 H locs hp hw => ?_)
      obtain ⟨rfl, rfl, rfl⟩ := hp
      refine lv_if_eq (tgt := 39) hx hb dX11_sail_24 (by decide) (fun c_6 => ?_) (fun c_6 => ?_)
      · rw [if_pos c_6] at h
        refine lv_iconst (v := (-1)) hx hb dX11_sail_39 (by decide) ?_
        obtain ⟨rfl, rfl, rfl⟩ := sm_inj h
        exact gx_ri (post := gq_p (-1) σ_5 τ_5) (v := (-1)) S hr hlk hw rfl dX11_sail_40 ⟨rfl, rfl, rfl⟩
      · rw [if_neg c_6] at h
        refine lv_aload_n hx hb dX11_sail_27 rfl (lv_at hl 0 rfl) ?_
        refine gx_getr (j := 3) S hK hw t_0 cl_12 1 (by decide) rfl mw_448 rfl dX11_sail_28 ?_
        refine lv_iload hx hb dX11_sail_31 (lv_at hl 5 rfl) ?_
        obtain ⟨r_7, σ_7, τ_7, q_7, h⟩ := bd_some h
        refine gx_cVi (As := [.int x5]) (rest := []) S hK gx_ok hw (c_X8_isKitchen l (E := E) N σ_5 τ_5 x5 q_7) cw_X11_234 t_3 cl_9 ⟨Nat.le_of_ble_eq_true rfl, Nat.le_of_ble_eq_true rfl⟩ rfl hl.1 rfl (Nat.le_of_ble_eq_true rfl) ⟨Nat.le_of_ble_eq_true rfl, Nat.le_of_ble_eq_true rfl⟩ dX11_sail_33 (fun r9 σ9 τ9 H locs hp hw => ?_)
        obtain ⟨rfl, rfl, rfl⟩ := hp
        refine lv_if_ne (tgt := 41) hx hb dX11_sail_36 (by decide) (fun c_8 => ?_) (fun c_8 => ?_)
        · rw [if_neg c_8] at h
          refine lv_aload_n hx hb dX11_sail_41 rfl (lv_at hl 0 rfl) ?_
          refine lv_iload_n hx hb dX11_sail_42 rfl (lv_at hl 1 rfl) ?_
          refine lv_iload_n hx hb dX11_sail_43 rfl (lv_at hl 2 rfl) ?_
          refine lv_iload_n hx hb dX11_sail_44 rfl (lv_at hl 3 rfl) ?_
          refine lv_iload hx hb dX11_sail_45 (lv_at hl 4 rfl) ?_
          obtain ⟨r_9, σ_9, τ_9, q_9, h⟩ := bd_some h
          refine gx_cVi (As := [.int x1, .int x2, .int x3, .int x4]) (rest := []) S hK gx_ok hw (c_X11_sailed l (E := E) N σ_7 τ_7 x1 x2 x3 x4 q_9) cw_X11_313 t_0 cl_12 ⟨Nat.le_of_ble_eq_true rfl, Nat.le_of_ble_eq_true rfl⟩ rfl hl.1 rfl (Nat.le_of_ble_eq_true rfl) ⟨Nat.le_of_ble_eq_true rfl, Nat.le_of_ble_eq_true rfl⟩ dX11_sail_47 (fun r9 σ9 τ9 H locs hp hw => ?_)
          obtain ⟨rfl, rfl, rfl⟩ := hp
          refine lv_istore (lv' := [(6, .int r_9), (0, .ref (E.2.2 + 0)), (1, .int x1), (2, .int x2), (3, .int x3), (4, .int x4), (5, .int x5)]) hx hb dX11_sail_50 hl (by decide) rfl (fun ls hl => ?_)
          refine lv_iload hx hb dX11_sail_52 (lv_at hl 0 rfl) ?_
          refine lv_iload hx hb dX11_sail_54 (lv_at hl 6 rfl) ?_
          obtain ⟨r_10, σ_10, τ_10, q_10, h⟩ := bd_some h
          refine gx_cSi (As := [.int r_9, .int x5]) (rest := []) S hK gx_ok hw (c_X11_isIn l (E := E) N σ_9 τ_9 r_9 x5 q_10) cw_X11_317 ⟨Nat.le_of_ble_eq_true rfl, Nat.le_of_ble_eq_true rfl⟩ rfl hl.1 rfl (Nat.le_of_ble_eq_true rfl) ⟨Nat.le_of_ble_eq_true rfl, Nat.le_of_ble_eq_true rfl⟩ dX11_sail_56 (fun r9 σ9 τ9 H locs hp hw => ?_)
          obtain ⟨rfl, rfl, rfl⟩ := hp
          refine lv_if_eq (tgt := 70) hx hb dX11_sail_59 (by decide) (fun c_11 => ?_) (fun c_11 => ?_)
          · rw [if_pos c_11] at h
            refine lv_bipush (v := (-2)) hx hb dX11_sail_70 (by decide) ?_
            obtain ⟨rfl, rfl, rfl⟩ := sm_inj h
            exact gx_ri (post := gq_p (-2) σ_10 τ_10) (v := (-2)) S hr hlk hw rfl dX11_sail_72 ⟨rfl, rfl, rfl⟩
          · rw [if_neg c_11] at h
            refine lv_iload hx hb dX11_sail_62 (lv_at hl 0 rfl) ?_
            obtain ⟨r_12, σ_12, τ_12, q_12, h⟩ := bd_some h
            refine gx_cSi (As := [.int r_9]) (rest := []) S hK gx_ok hw (c_X11_minutesOf l (E := E) N σ_10 τ_10 r_9 q_12) cw_X11_320 ⟨Nat.le_of_ble_eq_true rfl, Nat.le_of_ble_eq_true rfl⟩ rfl hl.1 rfl (Nat.le_of_ble_eq_true rfl) ⟨Nat.le_of_ble_eq_true rfl, Nat.le_of_ble_eq_true rfl⟩ dX11_sail_64 (fun r9 σ9 τ9 H locs hp hw => ?_)
            obtain ⟨rfl, rfl, rfl⟩ := hp
            refine lv_goto (tgt := 72) hx hb dX11_sail_67 (by decide) ?_
            obtain ⟨rfl, rfl, rfl⟩ := sm_inj h
            exact gx_ri (post := gq_p r_12 σ_12 τ_12) (v := r_12) S hr hlk hw rfl dX11_sail_72 ⟨rfl, rfl, rfl⟩
        · rw [if_pos c_8] at h
          refine lv_iconst (v := (-1)) hx hb dX11_sail_39 (by decide) ?_
          obtain ⟨rfl, rfl, rfl⟩ := sm_inj h
          exact gx_ri (post := gq_p (-1) σ_7 τ_7) (v := (-1)) S hr hlk hw rfl dX11_sail_40 ⟨rfl, rfl, rfl⟩
set_option maxHeartbeats 4000000 in
set_option maxRecDepth 100000 in
theorem c_X11_sail (l : Launch) {E : gE} (N : Nat) (σ : gI) (τ : gJ) (x1 : Int32) (x2 : Int32) (x3 : Int32) (x4 : Int32) (x5 : Int32) {r : Int32} {σ1 : gI} {τ1 : gJ} (h : B_X11_sail_0 N σ τ x1 x2 x3 x4 x5 = some (r, σ1, τ1)) : gx_Mi l yX11_sail cX11_sail 7 (some .int) 6 gx_tb E σ τ [.ref (E.2.2 + 0), .int x1, .int x2, .int x3, .int x4, .int x5] (gq_p r σ1 τ1) := by
  refine gx_bi (by decide +kernel) (Nat.le_of_ble_eq_true rfl) ?_
  intro P9 e9 s m9 below meth C9 S hr hlk hK hw ls hl
  have hl : lv_has ls 7 [(0, .ref (E.2.2 + 0)), (1, .int x1), (2, .int x2), (3, .int x3), (4, .int x4), (5, .int x5)] := hl
  exact b_X11_sail_0 l S hr hlk hK N σ τ x1 x2 x3 x4 x5 h hw hl
/-! X11_save -/
def B_X11_save_0 (N : Nat) (σ : gI) (τ : gJ) (x1 : Int32) : Option (Int32 × gI × gJ) := if x1 < 0 then (some ((-1), σ, τ)) else (if x1 < 1 <<< ((σ 30 6) &&& 31) then (bd (B_X9_startFrom_0 N σ τ x1 0) fun _ σ_3 τ_3 => bd (B_X11_fewestTurns_0 N σ_3 τ_3 (-1)) fun r_4 σ_4 τ_4 => some (r_4, σ_4, τ_4)) else (some ((-1), σ, τ)))
set_option maxHeartbeats 4000000 in
set_option maxRecDepth 100000 in
theorem b_X11_save_0 (l : Launch) (S : CallFix P9 m9 C9 cX11_save 2 s av.toArray gx_G RX11) (hr : meth.sig.returnType = (some .int)) (hlk : meth.locks = false) (hK : gx_K E s) (N : Nat) (σ : gI) (τ : gJ) (x1 : Int32) {r : Int32} {σ1 : gI} {τ1 : gJ} (h : B_X11_save_0 N σ τ x1 = some (r, σ1, τ1)) {H : Heap} {locs : List Loc} {ls : Array Slot} (hw : gx_W gx_tb gx_tb.length E s σ τ H locs) (hl : lv_has ls 2 [(0, .ref (E.2.2 + 0)), (1, .int x1)]) : W P9 l e9 (gx_rm 7) s m9 av.toArray below meth C9 H locs 0 0 (gq_Qi below av s E r σ1 τ1) (F0 m9 0 ls []) := by
  have hx := S.1
  have hb := S.2.1
  unfold B_X11_save_0 at h
  refine lv_iload_n hx hb dX11_save_0 rfl (lv_at hl 1 rfl) ?_
  refine lv_if_lt (tgt := 17) hx hb dX11_save_1 (by decide) (fun c_1 => ?_) (fun c_1 => ?_)
  · rw [if_pos c_1] at h
    refine lv_iconst (v := (-1)) hx hb dX11_save_17 (by decide) ?_
    obtain ⟨rfl, rfl, rfl⟩ := sm_inj h
    exact gx_ri (post := gq_p (-1) σ τ) (v := (-1)) S hr hlk hw rfl dX11_save_18 ⟨rfl, rfl, rfl⟩
  · rw [if_neg c_1] at h
    refine lv_iload_n hx hb dX11_save_4 rfl (lv_at hl 1 rfl) ?_
    refine lv_iconst (v := 1) hx hb dX11_save_5 (by decide) ?_
    refine lv_aload_n hx hb dX11_save_6 rfl (lv_at hl 0 rfl) ?_
    refine gx_getr (j := 30) S hK hw t_0 cl_12 7 (by decide) rfl mw_454 rfl dX11_save_7 ?_
    refine gx_get S hK hw t_30 cl_7 6 (by decide) rfl mw_272 rfl dX11_save_10 ?_
    refine lv_ishl hx hb dX11_save_13 ?_
    refine lv_icmp_lt (tgt := 19) hx hb dX11_save_14 (by decide) (fun c_2 => ?_) (fun c_2 => ?_)
    · rw [if_pos c_2] at h
      refine lv_aload_n hx hb dX11_save_19 rfl (lv_at hl 0 rfl) ?_
      refine gx_getr (j := 160) S hK hw t_0 cl_12 15 (by decide) rfl mw_462 rfl dX11_save_20 ?_
      refine lv_aload_n hx hb dX11_save_23 rfl (lv_at hl 0 rfl) ?_
      refine gx_getr (j := 30) S hK hw t_0 cl_12 7 (by decide) rfl mw_454 rfl dX11_save_24 ?_
      refine lv_iload_n hx hb dX11_save_27 rfl (lv_at hl 1 rfl) ?_
      refine lv_iconst (v := 0) hx hb dX11_save_28 (by decide) ?_
      obtain ⟨u_3, σ_3, τ_3, q_3, h⟩ := bd_some h
      refine gx_cVv (As := [.ref (E.2.2 + 30), .int x1, .int 0]) (rest := []) S hK gx_ok hw (c_X9_startFrom l (E := E) N σ τ x1 0 q_3) cw_X11_343 t_160 cl_10 ⟨Nat.le_of_ble_eq_true rfl, Nat.le_of_ble_eq_true rfl⟩ rfl hl.1 rfl (Nat.le_of_ble_eq_true rfl) ⟨Nat.le_of_ble_eq_true rfl, Nat.le_of_ble_eq_true rfl⟩ dX11_save_29 (fun σ9 τ9 H locs hp hw => ?_)
      obtain ⟨rfl, rfl⟩ := hp
      refine lv_aload_n hx hb dX11_save_32 rfl (lv_at hl 0 rfl) ?_
      refine lv_iconst (v := (-1)) hx hb dX11_save_33 (by decide) ?_
      obtain ⟨r_4, σ_4, τ_4, q_4, h⟩ := bd_some h
      refine gx_cVi (As := [.int (-1)]) (rest := []) S hK gx_ok hw (c_X11_fewestTurns l (E := E) N σ_3 τ_3 (-1) q_4) cw_X11_347 t_0 cl_12 ⟨Nat.le_of_ble_eq_true rfl, Nat.le_of_ble_eq_true rfl⟩ rfl hl.1 rfl (Nat.le_of_ble_eq_true rfl) ⟨Nat.le_of_ble_eq_true rfl, Nat.le_of_ble_eq_true rfl⟩ dX11_save_34 (fun r9 σ9 τ9 H locs hp hw => ?_)
      obtain ⟨rfl, rfl, rfl⟩ := hp
      obtain ⟨rfl, rfl, rfl⟩ := sm_inj h
      exact gx_ri (post := gq_p r_4 σ_4 τ_4) (v := r_4) S hr hlk hw rfl dX11_save_37 ⟨rfl, rfl, rfl⟩
    · rw [if_neg c_2] at h
      refine lv_iconst (v := (-1)) hx hb dX11_save_17 (by decide) ?_
      obtain ⟨rfl, rfl, rfl⟩ := sm_inj h
      exact gx_ri (post := gq_p (-1) σ τ) (v := (-1)) S hr hlk hw rfl dX11_save_18 ⟨rfl, rfl, rfl⟩
set_option maxHeartbeats 4000000 in
set_option maxRecDepth 100000 in
theorem c_X11_save (l : Launch) {E : gE} (N : Nat) (σ : gI) (τ : gJ) (x1 : Int32) {r : Int32} {σ1 : gI} {τ1 : gJ} (h : B_X11_save_0 N σ τ x1 = some (r, σ1, τ1)) : gx_Mi l yX11_save cX11_save 2 (some .int) 7 gx_tb E σ τ [.ref (E.2.2 + 0), .int x1] (gq_p r σ1 τ1) := by
  refine gx_bi (by decide +kernel) (Nat.le_of_ble_eq_true rfl) ?_
  intro P9 e9 s m9 below meth C9 S hr hlk hK hw ls hl
  have hl : lv_has ls 2 [(0, .ref (E.2.2 + 0)), (1, .int x1)] := hl
  exact b_X11_save_0 l S hr hlk hK N σ τ x1 h hw hl
/-! X11_sheet -/
def B_X11_sheet_85 (N : Nat) (rec_47 : gI → gJ → Int32 → Int32 → Int32 → Int32 → Int32 → Int32 → Int32 → Option (Int32 × gI × gJ)) (σ : gI) (τ : gJ) (x1 : Int32) (x2 : Int32) (x3 : Int32) (x4 : Int32) (x5 : Int32) (x6 : Int32) (x7 : Int32) (y0 : Int32) : Option (Int32 × gI × gJ) := bd (B_X6_setPaper_0 N 30 σ τ x7 y0) fun _ σ_1 τ_1 => nm (x6 + y0) fun v_2 => nm (x7 + 1) fun v_3 => rec_47 σ_1 τ_1 x1 x2 x3 x4 x5 v_2 v_3
def C_X11_sheet_47 (N : Nat) (rec_47 : gI → gJ → Int32 → Int32 → Int32 → Int32 → Int32 → Int32 → Int32 → Option (Int32 × gI × gJ)) (σ : gI) (τ : gJ) (x1 : Int32) (x2 : Int32) (x3 : Int32) (x4 : Int32) (x5 : Int32) (x6 : Int32) (x7 : Int32) : Option (Int32 × gI × gJ) := if σ 30 6 ≤ x7 then (if x5 = 0 then (some (x6, σ, τ)) else (some ((-3), σ, τ))) else (if x5 = 0 then (if x7 < x2 then (bd (B_X11_entry_0 N σ τ x1 (x3 + (x7 * x4))) fun r_5 σ_5 τ_5 => B_X11_sheet_85 N rec_47 σ_5 τ_5 x1 x2 x3 x4 x5 x6 x7 r_5) else (B_X11_sheet_85 N rec_47 σ τ x1 x2 x3 x4 x5 x6 x7 0)) else (B_X11_sheet_85 N rec_47 σ τ x1 x2 x3 x4 x5 x6 x7 0))
def H_X11_sheet_47 (N : Nat) : Nat → gI → gJ → Int32 → Int32 → Int32 → Int32 → Int32 → Int32 → Int32 → Option (Int32 × gI × gJ) := itn (fun rec_47 => C_X11_sheet_47 N rec_47) (fun _ _ _ _ _ _ _ _ _ => none)
def B_X11_sheet_0 (N : Nat) (σ : gI) (τ : gJ) (x1 : Int32) (x2 : Int32) (x3 : Int32) (x4 : Int32) : Option (Int32 × gI × gJ) := if x1 < 0 then (some ((-1), σ, τ)) else (if 3 < x1 then (some ((-1), σ, τ)) else (if x2 ≤ 6 then (if x1 = 3 then (H_X11_sheet_47 N N σ τ x1 x2 x3 x4 1 0 0) else (if 0 ≤ x2 then (H_X11_sheet_47 N N σ τ x1 x2 x3 x4 0 0 0) else (some ((-2), σ, τ)))) else (some ((-1), σ, τ))))
set_option maxHeartbeats 4000000 in
set_option maxRecDepth 100000 in
theorem b_X11_sheet_85 (l : Launch) (S : CallFix P9 m9 C9 cX11_sheet 9 s av.toArray gx_G RX11) (hr : meth.sig.returnType = (some .int)) (hlk : meth.locks = false) (hK : gx_K E s) (N : Nat) (rec_47 : gI → gJ → Int32 → Int32 → Int32 → Int32 → Int32 → Int32 → Int32 → Option (Int32 × gI × gJ)) (hrec_47 : ∀ (σ : gI) (τ : gJ) (x1 : Int32) (x2 : Int32) (x3 : Int32) (x4 : Int32) (x5 : Int32) (x6 : Int32) (x7 : Int32) (r : Int32) (σ1 : gI) (τ1 : gJ) (H : Heap) (locs : List Loc) (ls : Array Slot), rec_47 σ τ x1 x2 x3 x4 x5 x6 x7 = some (r, σ1, τ1) → gx_W gx_tb gx_tb.length E s σ τ H locs → lv_has ls 9 [(0, .ref (E.2.2 + 0)), (1, .int x1), (2, .int x2), (3, .int x3), (4, .int x4), (5, .int x5), (6, .int x6), (7, .int x7)] → W P9 l e9 (gx_rm 2) s m9 av.toArray below meth C9 H locs 0 0 (gq_Qi below av s E r σ1 τ1) (F0 m9 47 ls [])) (σ : gI) (τ : gJ) (x1 : Int32) (x2 : Int32) (x3 : Int32) (x4 : Int32) (x5 : Int32) (x6 : Int32) (x7 : Int32) (y0 : Int32) {r : Int32} {σ1 : gI} {τ1 : gJ} (h : B_X11_sheet_85 N rec_47 σ τ x1 x2 x3 x4 x5 x6 x7 y0 = some (r, σ1, τ1)) {H : Heap} {locs : List Loc} {ls : Array Slot} (hw : gx_W gx_tb gx_tb.length E s σ τ H locs) (hl : lv_has ls 9 [(0, .ref (E.2.2 + 0)), (1, .int x1), (2, .int x2), (3, .int x3), (4, .int x4), (5, .int x5), (6, .int x6), (7, .int x7)]) : W P9 l e9 (gx_rm 2) s m9 av.toArray below meth C9 H locs 0 0 (gq_Qi below av s E r σ1 τ1) (F0 m9 85 ls [.int y0]) := by
  have hx := S.1
  have hb := S.2.1
  unfold B_X11_sheet_85 at h
  refine lv_istore (lv' := [(8, .int y0), (0, .ref (E.2.2 + 0)), (1, .int x1), (2, .int x2), (3, .int x3), (4, .int x4), (5, .int x5), (6, .int x6), (7, .int x7)]) hx hb dX11_sheet_85 hl (by decide) rfl (fun ls hl => ?_)
  refine lv_aload_n hx hb dX11_sheet_87 rfl (lv_at hl 1 rfl) ?_
  refine gx_getr (j := 30) S hK hw t_0 cl_12 7 (by decide) rfl mw_454 rfl dX11_sheet_88 ?_
  refine lv_iload hx hb dX11_sheet_91 (lv_at hl 8 rfl) ?_
  refine lv_iload hx hb dX11_sheet_93 (lv_at hl 0 rfl) ?_
  obtain ⟨u_1, σ_1, τ_1, q_1, h⟩ := bd_some h
  refine gx_cVv (As := [.int x7, .int y0]) (rest := []) S hK gx_ok hw (c_X6_setPaper l (E := E) N 30 is_30 σ τ x7 y0 q_1) cw_X11_215 t_30 cl_7 ⟨Nat.le_of_ble_eq_true rfl, Nat.le_of_ble_eq_true rfl⟩ rfl hl.1 rfl (Nat.le_of_ble_eq_true rfl) ⟨Nat.le_of_ble_eq_true rfl, Nat.le_of_ble_eq_true rfl⟩ dX11_sheet_95 (fun σ9 τ9 H locs hp hw => ?_)
  obtain ⟨rfl, rfl⟩ := hp
  refine lv_iload hx hb dX11_sheet_98 (lv_at hl 7 rfl) ?_
  refine lv_iload hx hb dX11_sheet_100 (lv_at hl 0 rfl) ?_
  refine lv_iadd hx hb dX11_sheet_102 ?_
  refine lv_istore (lv' := [(6, .int (x6 + y0)), (8, .int y0), (0, .ref (E.2.2 + 0)), (1, .int x1), (2, .int x2), (3, .int x3), (4, .int x4), (5, .int x5), (7, .int x7)]) hx hb dX11_sheet_103 hl (by decide) rfl (fun ls hl => ?_)
  obtain ⟨v_2, e_2, h⟩ := nm_some h
  have hl : lv_has ls 9 [(6, .int v_2), (8, .int y0), (0, .ref (E.2.2 + 0)), (1, .int x1), (2, .int x2), (3, .int x3), (4, .int x4), (5, .int x5), (7, .int x7)] := by rw [e_2]; exact hl
  refine lv_iinc (v := x7 + 1) (lv' := [(7, .int (x7 + 1)), (6, .int v_2), (8, .int y0), (0, .ref (E.2.2 + 0)), (1, .int x1), (2, .int x2), (3, .int x3), (4, .int x4), (5, .int x5)]) hx hb dX11_sheet_105 hl (k := 8) rfl rfl (by decide) rfl (fun ls hl => ?_)
  obtain ⟨v_3, e_3, h⟩ := nm_some h
  have hl : lv_has ls 9 [(7, .int v_3), (6, .int v_2), (8, .int y0), (0, .ref (E.2.2 + 0)), (1, .int x1), (2, .int x2), (3, .int x3), (4, .int x4), (5, .int x5)] := by rw [e_3]; exact hl
  refine lv_goto (tgt := 47) hx hb dX11_sheet_108 (by decide) ?_
  exact hrec_47 σ_1 τ_1 x1 x2 x3 x4 x5 v_2 v_3 _ _ _ _ _ _ h hw (lv_sub hl [3, 4, 5, 6, 7, 8, 1, 0] rfl)
set_option maxHeartbeats 4000000 in
set_option maxRecDepth 100000 in
theorem k_X11_sheet_47 (l : Launch) (S : CallFix P9 m9 C9 cX11_sheet 9 s av.toArray gx_G RX11) (hr : meth.sig.returnType = (some .int)) (hlk : meth.locks = false) (hK : gx_K E s) (N : Nat) (rec_47 : gI → gJ → Int32 → Int32 → Int32 → Int32 → Int32 → Int32 → Int32 → Option (Int32 × gI × gJ)) (hrec_47 : ∀ (σ : gI) (τ : gJ) (x1 : Int32) (x2 : Int32) (x3 : Int32) (x4 : Int32) (x5 : Int32) (x6 : Int32) (x7 : Int32) (r : Int32) (σ1 : gI) (τ1 : gJ) (H : Heap) (locs : List Loc) (ls : Array Slot), rec_47 σ τ x1 x2 x3 x4 x5 x6 x7 = some (r, σ1, τ1) → gx_W gx_tb gx_tb.length E s σ τ H locs → lv_has ls 9 [(0, .ref (E.2.2 + 0)), (1, .int x1), (2, .int x2), (3, .int x3), (4, .int x4), (5, .int x5), (6, .int x6), (7, .int x7)] → W P9 l e9 (gx_rm 2) s m9 av.toArray below meth C9 H locs 0 0 (gq_Qi below av s E r σ1 τ1) (F0 m9 47 ls [])) (σ : gI) (τ : gJ) (x1 : Int32) (x2 : Int32) (x3 : Int32) (x4 : Int32) (x5 : Int32) (x6 : Int32) (x7 : Int32) {r : Int32} {σ1 : gI} {τ1 : gJ} (h : C_X11_sheet_47 N rec_47 σ τ x1 x2 x3 x4 x5 x6 x7 = some (r, σ1, τ1)) {H : Heap} {locs : List Loc} {ls : Array Slot} (hw : gx_W gx_tb gx_tb.length E s σ τ H locs) (hl : lv_has ls 9 [(0, .ref (E.2.2 + 0)), (1, .int x1), (2, .int x2), (3, .int x3), (4, .int x4), (5, .int x5), (6, .int x6), (7, .int x7)]) : W P9 l e9 (gx_rm 2) s m9 av.toArray below meth C9 H locs 0 0 (gq_Qi below av s E r σ1 τ1) (F0 m9 47 ls []) := by
  have hx := S.1
  have hb := S.2.1
  unfold C_X11_sheet_47 at h
  refine lv_iload hx hb dX11_sheet_47 (lv_at hl 7 rfl) ?_
  refine lv_aload_n hx hb dX11_sheet_49 rfl (lv_at hl 0 rfl) ?_
  refine gx_getr (j := 30) S hK hw t_0 cl_12 7 (by decide) rfl mw_454 rfl dX11_sheet_50 ?_
  refine gx_get S hK hw t_30 cl_7 6 (by decide) rfl mw_272 rfl dX11_sheet_53 ?_
  refine lv_icmp_ge (tgt := 111) hx hb dX11_sheet_56 (by decide) (fun c_1 => ?_) (fun c_1 => ?_)
  · rw [if_pos c_1] at h
    refine lv_iload hx hb dX11_sheet_111 (lv_at hl 5 rfl) ?_
    refine lv_if_eq (tgt := 121) hx hb dX11_sheet_113 (by decide) (fun c_2 => ?_) (fun c_2 => ?_)
    · rw [if_pos c_2] at h
      refine lv_iload hx hb dX11_sheet_121 (lv_at hl 6 rfl) ?_
      obtain ⟨rfl, rfl, rfl⟩ := sm_inj h
      exact gx_ri (post := gq_p x6 σ τ) (v := x6) S hr hlk hw rfl dX11_sheet_123 ⟨rfl, rfl, rfl⟩
    · rw [if_neg c_2] at h
      refine lv_bipush (v := (-3)) hx hb dX11_sheet_116 (by decide) ?_
      refine lv_goto (tgt := 123) hx hb dX11_sheet_118 (by decide) ?_
      obtain ⟨rfl, rfl, rfl⟩ := sm_inj h
      exact gx_ri (post := gq_p (-3) σ τ) (v := (-3)) S hr hlk hw rfl dX11_sheet_123 ⟨rfl, rfl, rfl⟩
  · rw [if_neg c_1] at h
    refine lv_iload hx hb dX11_sheet_59 (lv_at hl 5 rfl) ?_
    refine lv_if_ne (tgt := 70) hx hb dX11_sheet_61 (by decide) (fun c_3 => ?_) (fun c_3 => ?_)
    · rw [if_neg c_3] at h
      refine lv_iconst (v := 0) hx hb dX11_sheet_70 (by decide) ?_
      refine lv_goto (tgt := 85) hx hb dX11_sheet_71 (by decide) ?_
      exact b_X11_sheet_85 l S hr hlk hK N rec_47 hrec_47 σ τ x1 x2 x3 x4 x5 x6 x7 0 h hw (lv_sub hl [0, 1, 2, 3, 4, 5, 6, 7] rfl)
    · rw [if_pos c_3] at h
      refine lv_iload hx hb dX11_sheet_64 (lv_at hl 7 rfl) ?_
      refine lv_iload_n hx hb dX11_sheet_66 rfl (lv_at hl 2 rfl) ?_
      refine lv_icmp_lt (tgt := 74) hx hb dX11_sheet_67 (by decide) (fun c_4 => ?_) (fun c_4 => ?_)
      · rw [if_pos c_4] at h
        refine lv_iload_n hx hb dX11_sheet_74 rfl (lv_at hl 1 rfl) ?_
        refine lv_iload_n hx hb dX11_sheet_75 rfl (lv_at hl 3 rfl) ?_
        refine lv_iload hx hb dX11_sheet_76 (lv_at hl 7 rfl) ?_
        refine lv_iload hx hb dX11_sheet_78 (lv_at hl 4 rfl) ?_
        refine lv_imul hx hb dX11_sheet_80 ?_
        refine lv_iadd hx hb dX11_sheet_81 ?_
        obtain ⟨r_5, σ_5, τ_5, q_5, h⟩ := bd_some h
        refine gx_cSi (As := [.int x1, .int (x3 + (x7 * x4))]) (rest := []) S hK gx_ok hw (c_X11_entry l (E := E) N σ τ x1 (x3 + (x7 * x4)) q_5) cw_X11_211 ⟨Nat.le_of_ble_eq_true rfl, Nat.le_of_ble_eq_true rfl⟩ rfl hl.1 rfl (Nat.le_of_ble_eq_true rfl) ⟨Nat.le_of_ble_eq_true rfl, Nat.le_of_ble_eq_true rfl⟩ dX11_sheet_82 (fun r9 σ9 τ9 H locs hp hw => ?_)
        obtain ⟨rfl, rfl, rfl⟩ := hp
        exact b_X11_sheet_85 l S hr hlk hK N rec_47 hrec_47 σ_5 τ_5 x1 x2 x3 x4 x5 x6 x7 r_5 h hw (lv_sub hl [0, 1, 2, 3, 4, 5, 6, 7] rfl)
      · rw [if_neg c_4] at h
        refine lv_iconst (v := 0) hx hb dX11_sheet_70 (by decide) ?_
        refine lv_goto (tgt := 85) hx hb dX11_sheet_71 (by decide) ?_
        exact b_X11_sheet_85 l S hr hlk hK N rec_47 hrec_47 σ τ x1 x2 x3 x4 x5 x6 x7 0 h hw (lv_sub hl [0, 1, 2, 3, 4, 5, 6, 7] rfl)
set_option maxHeartbeats 4000000 in
set_option maxRecDepth 100000 in
theorem h_X11_sheet_47 (l : Launch) (S : CallFix P9 m9 C9 cX11_sheet 9 s av.toArray gx_G RX11) (hr : meth.sig.returnType = (some .int)) (hlk : meth.locks = false) (hK : gx_K E s) (N : Nat) : ∀ (n : Nat) (σ : gI) (τ : gJ) (x1 : Int32) (x2 : Int32) (x3 : Int32) (x4 : Int32) (x5 : Int32) (x6 : Int32) (x7 : Int32) (r : Int32) (σ1 : gI) (τ1 : gJ), H_X11_sheet_47 N n σ τ x1 x2 x3 x4 x5 x6 x7 = some (r, σ1, τ1) → ∀ (H : Heap) (locs : List Loc) (ls : Array Slot), gx_W gx_tb gx_tb.length E s σ τ H locs → lv_has ls 9 [(0, .ref (E.2.2 + 0)), (1, .int x1), (2, .int x2), (3, .int x3), (4, .int x4), (5, .int x5), (6, .int x6), (7, .int x7)] → W P9 l e9 (gx_rm 2) s m9 av.toArray below meth C9 H locs 0 0 (gq_Qi below av s E r σ1 τ1) (F0 m9 47 ls []) := by
  intro n
  induction n with
  | zero => intro σ τ x1 x2 x3 x4 x5 x6 x7 r σ1 τ1 h; cases h
  | succ n ih =>
    intro σ τ x1 x2 x3 x4 x5 x6 x7 r σ1 τ1 h H locs ls hw hl
    exact k_X11_sheet_47 l S hr hlk hK N (H_X11_sheet_47 N n) (fun σ τ x1 x2 x3 x4 x5 x6 x7 r σ1 τ1 H locs ls h hw hl => ih σ τ x1 x2 x3 x4 x5 x6 x7 r σ1 τ1 h H locs ls hw hl) σ τ x1 x2 x3 x4 x5 x6 x7 h hw hl
set_option maxHeartbeats 4000000 in
set_option maxRecDepth 100000 in
theorem b_X11_sheet_0 (l : Launch) (S : CallFix P9 m9 C9 cX11_sheet 9 s av.toArray gx_G RX11) (hr : meth.sig.returnType = (some .int)) (hlk : meth.locks = false) (hK : gx_K E s) (N : Nat) (σ : gI) (τ : gJ) (x1 : Int32) (x2 : Int32) (x3 : Int32) (x4 : Int32) {r : Int32} {σ1 : gI} {τ1 : gJ} (h : B_X11_sheet_0 N σ τ x1 x2 x3 x4 = some (r, σ1, τ1)) {H : Heap} {locs : List Loc} {ls : Array Slot} (hw : gx_W gx_tb gx_tb.length E s σ τ H locs) (hl : lv_has ls 9 [(0, .ref (E.2.2 + 0)), (1, .int x1), (2, .int x2), (3, .int x3), (4, .int x4)]) : W P9 l e9 (gx_rm 2) s m9 av.toArray below meth C9 H locs 0 0 (gq_Qi below av s E r σ1 τ1) (F0 m9 0 ls []) := by
  have hx := S.1
  have hb := S.2.1
  unfold B_X11_sheet_0 at h
  refine lv_iload_n hx hb dX11_sheet_0 rfl (lv_at hl 1 rfl) ?_
  refine lv_if_lt (tgt := 15) hx hb dX11_sheet_1 (by decide) (fun c_1 => ?_) (fun c_1 => ?_)
  · rw [if_pos c_1] at h
    refine lv_iconst (v := (-1)) hx hb dX11_sheet_15 (by decide) ?_
    obtain ⟨rfl, rfl, rfl⟩ := sm_inj h
    exact gx_ri (post := gq_p (-1) σ τ) (v := (-1)) S hr hlk hw rfl dX11_sheet_16 ⟨rfl, rfl, rfl⟩
  · rw [if_neg c_1] at h
    refine lv_iload_n hx hb dX11_sheet_4 rfl (lv_at hl 1 rfl) ?_
    refine lv_iconst (v := 3) hx hb dX11_sheet_5 (by decide) ?_
    refine lv_icmp_gt (tgt := 15) hx hb dX11_sheet_6 (by decide) (fun c_2 => ?_) (fun c_2 => ?_)
    · rw [if_pos c_2] at h
      refine lv_iconst (v := (-1)) hx hb dX11_sheet_15 (by decide) ?_
      obtain ⟨rfl, rfl, rfl⟩ := sm_inj h
      exact gx_ri (post := gq_p (-1) σ τ) (v := (-1)) S hr hlk hw rfl dX11_sheet_16 ⟨rfl, rfl, rfl⟩
    · rw [if_neg c_2] at h
      refine lv_iload_n hx hb dX11_sheet_9 rfl (lv_at hl 2 rfl) ?_
      refine lv_bipush (v := 6) hx hb dX11_sheet_10 (by decide) ?_
      refine lv_icmp_le (tgt := 17) hx hb dX11_sheet_12 (by decide) (fun c_3 => ?_) (fun c_3 => ?_)
      · rw [if_pos c_3] at h
        refine lv_iload_n hx hb dX11_sheet_17 rfl (lv_at hl 1 rfl) ?_
        refine lv_iconst (v := 3) hx hb dX11_sheet_18 (by decide) ?_
        refine lv_icmp_ne (tgt := 26) hx hb dX11_sheet_19 (by decide) (fun c_4 => ?_) (fun c_4 => ?_)
        · rw [if_neg c_4] at h
          refine lv_iconst (v := 0) hx hb dX11_sheet_26 (by decide) ?_
          refine lv_istore (lv' := [(5, .int 0), (0, .ref (E.2.2 + 0)), (1, .int x1), (2, .int x2), (3, .int x3), (4, .int x4)]) hx hb dX11_sheet_27 hl (by decide) rfl (fun ls hl => ?_)
          refine lv_iload hx hb dX11_sheet_29 (lv_at hl 0 rfl) ?_
          refine lv_if_ne (tgt := 41) hx hb dX11_sheet_31 (by decide) (fun h9 => absurd (by decide) h9) (fun _ => ?_)
          refine lv_iload_n hx hb dX11_sheet_34 rfl (lv_at hl 3 rfl) ?_
          refine lv_if_ge (tgt := 41) hx hb dX11_sheet_35 (by decide) (fun c_5 => ?_) (fun c_5 => ?_)
          · rw [if_pos c_5] at h
            refine lv_iconst (v := 0) hx hb dX11_sheet_41 (by decide) ?_
            refine lv_istore (lv' := [(6, .int 0), (5, .int 0), (0, .ref (E.2.2 + 0)), (1, .int x1), (2, .int x2), (3, .int x3), (4, .int x4)]) hx hb dX11_sheet_42 hl (by decide) rfl (fun ls hl => ?_)
            refine lv_iconst (v := 0) hx hb dX11_sheet_44 (by decide) ?_
            refine lv_istore (lv' := [(7, .int 0), (6, .int 0), (5, .int 0), (0, .ref (E.2.2 + 0)), (1, .int x1), (2, .int x2), (3, .int x3), (4, .int x4)]) hx hb dX11_sheet_45 hl (by decide) rfl (fun ls hl => ?_)
            exact h_X11_sheet_47 l S hr hlk hK N N σ τ x1 x2 x3 x4 0 0 0 _ _ _ h _ _ _ hw (lv_sub hl [3, 4, 5, 6, 7, 2, 1, 0] rfl)
          · rw [if_neg c_5] at h
            refine lv_bipush (v := (-2)) hx hb dX11_sheet_38 (by decide) ?_
            obtain ⟨rfl, rfl, rfl⟩ := sm_inj h
            exact gx_ri (post := gq_p (-2) σ τ) (v := (-2)) S hr hlk hw rfl dX11_sheet_40 ⟨rfl, rfl, rfl⟩
        · rw [if_pos c_4] at h
          refine lv_iconst (v := 1) hx hb dX11_sheet_22 (by decide) ?_
          refine lv_goto (tgt := 27) hx hb dX11_sheet_23 (by decide) ?_
          refine lv_istore (lv' := [(5, .int 1), (0, .ref (E.2.2 + 0)), (1, .int x1), (2, .int x2), (3, .int x3), (4, .int x4)]) hx hb dX11_sheet_27 hl (by decide) rfl (fun ls hl => ?_)
          refine lv_iload hx hb dX11_sheet_29 (lv_at hl 0 rfl) ?_
          refine lv_if_ne (tgt := 41) hx hb dX11_sheet_31 (by decide) (fun _ => ?_) (fun h9 => absurd h9 (by decide))
          refine lv_iconst (v := 0) hx hb dX11_sheet_41 (by decide) ?_
          refine lv_istore (lv' := [(6, .int 0), (5, .int 1), (0, .ref (E.2.2 + 0)), (1, .int x1), (2, .int x2), (3, .int x3), (4, .int x4)]) hx hb dX11_sheet_42 hl (by decide) rfl (fun ls hl => ?_)
          refine lv_iconst (v := 0) hx hb dX11_sheet_44 (by decide) ?_
          refine lv_istore (lv' := [(7, .int 0), (6, .int 0), (5, .int 1), (0, .ref (E.2.2 + 0)), (1, .int x1), (2, .int x2), (3, .int x3), (4, .int x4)]) hx hb dX11_sheet_45 hl (by decide) rfl (fun ls hl => ?_)
          exact h_X11_sheet_47 l S hr hlk hK N N σ τ x1 x2 x3 x4 1 0 0 _ _ _ h _ _ _ hw (lv_sub hl [3, 4, 5, 6, 7, 2, 1, 0] rfl)
      · rw [if_neg c_3] at h
        refine lv_iconst (v := (-1)) hx hb dX11_sheet_15 (by decide) ?_
        obtain ⟨rfl, rfl, rfl⟩ := sm_inj h
        exact gx_ri (post := gq_p (-1) σ τ) (v := (-1)) S hr hlk hw rfl dX11_sheet_16 ⟨rfl, rfl, rfl⟩
set_option maxHeartbeats 4000000 in
set_option maxRecDepth 100000 in
theorem c_X11_sheet (l : Launch) {E : gE} (N : Nat) (σ : gI) (τ : gJ) (x1 : Int32) (x2 : Int32) (x3 : Int32) (x4 : Int32) {r : Int32} {σ1 : gI} {τ1 : gJ} (h : B_X11_sheet_0 N σ τ x1 x2 x3 x4 = some (r, σ1, τ1)) : gx_Mi l yX11_sheet cX11_sheet 9 (some .int) 2 gx_tb E σ τ [.ref (E.2.2 + 0), .int x1, .int x2, .int x3, .int x4] (gq_p r σ1 τ1) := by
  refine gx_bi (by decide +kernel) (Nat.le_of_ble_eq_true rfl) ?_
  intro P9 e9 s m9 below meth C9 S hr hlk hK hw ls hl
  have hl : lv_has ls 9 [(0, .ref (E.2.2 + 0)), (1, .int x1), (2, .int x2), (3, .int x3), (4, .int x4)] := hl
  exact b_X11_sheet_0 l S hr hlk hK N σ τ x1 x2 x3 x4 h hw hl
/-! X7_addFour -/
def B_X7_addFour_0 (N : Nat) (σ : gI) (τ : gJ) (x1 : Int32) : Option (Int32 × gI × gJ) := if σ 1 2 < 0 then (some (0, σ, τ)) else (if σ 1 2 ≤ 76 then (ck (σ 1 2) 80 fun j_3 => nm (up2 σ 2 j_3 ((ius x1 24) &&& 255)) fun σ_4 => ck ((σ_4 1 2) + 1) 80 fun j_5 => nm (up2 σ_4 2 j_5 ((ius x1 16) &&& 255)) fun σ_6 => ck ((σ_6 1 2) + 2) 80 fun j_7 => nm (up2 σ_6 2 j_7 ((ius x1 8) &&& 255)) fun σ_8 => ck ((σ_8 1 2) + 3) 80 fun j_9 => nm (up2 σ_8 2 j_9 (x1 &&& 255)) fun σ_10 => nm (up2 σ_10 1 2 ((σ_10 1 2) + 4)) fun σ_11 => some (1, σ_11, τ)) else (some (0, σ, τ)))
set_option maxHeartbeats 4000000 in
set_option maxRecDepth 100000 in
theorem b_X7_addFour_0 (l : Launch) (S : CallFix P9 m9 C9 cX7_addFour 2 s av.toArray gx_G RX7) (hr : meth.sig.returnType = (some .boolean)) (hlk : meth.locks = false) (hK : gx_K E s) (N : Nat) (σ : gI) (τ : gJ) (x1 : Int32) {r : Int32} {σ1 : gI} {τ1 : gJ} (h : B_X7_addFour_0 N σ τ x1 = some (r, σ1, τ1)) {H : Heap} {locs : List Loc} {ls : Array Slot} (hw : gx_W gx_tb gx_tb.length E s σ τ H locs) (hl : lv_has ls 2 [(0, .ref (E.2.2 + 1)), (1, .int x1)]) : W P9 l e9 (gx_rm 0) s m9 av.toArray below meth C9 H locs 0 0 (gq_Qi below av s E r σ1 τ1) (F0 m9 0 ls []) := by
  have hx := S.1
  have hb := S.2.1
  unfold B_X7_addFour_0 at h
  refine lv_aload_n hx hb dX7_addFour_0 rfl (lv_at hl 0 rfl) ?_
  refine gx_get S hK hw t_1 cl_8 2 (by decide) rfl mw_131 rfl dX7_addFour_1 ?_
  refine lv_if_lt (tgt := 16) hx hb dX7_addFour_4 (by decide) (fun c_1 => ?_) (fun c_1 => ?_)
  · rw [if_pos c_1] at h
    refine lv_iconst (v := 0) hx hb dX7_addFour_16 (by decide) ?_
    obtain ⟨rfl, rfl, rfl⟩ := sm_inj h
    exact gx_ri (post := gq_p 0 σ τ) (v := 0) S hr hlk hw rfl dX7_addFour_17 ⟨rfl, rfl, rfl⟩
  · rw [if_neg c_1] at h
    refine lv_aload_n hx hb dX7_addFour_7 rfl (lv_at hl 0 rfl) ?_
    refine gx_get S hK hw t_1 cl_8 2 (by decide) rfl mw_131 rfl dX7_addFour_8 ?_
    refine lv_bipush (v := 76) hx hb dX7_addFour_11 (by decide) ?_
    refine lv_icmp_le (tgt := 18) hx hb dX7_addFour_13 (by decide) (fun c_2 => ?_) (fun c_2 => ?_)
    · rw [if_pos c_2] at h
      refine lv_aload_n hx hb dX7_addFour_18 rfl (lv_at hl 0 rfl) ?_
      refine gx_getr (j := 2) S hK hw t_1 cl_8 0 (by decide) rfl mw_129 rfl dX7_addFour_19 ?_
      refine lv_aload_n hx hb dX7_addFour_22 rfl (lv_at hl 0 rfl) ?_
      refine gx_get S hK hw t_1 cl_8 2 (by decide) rfl mw_131 rfl dX7_addFour_23 ?_
      refine lv_iload_n hx hb dX7_addFour_26 rfl (lv_at hl 1 rfl) ?_
      refine lv_bipush (v := 24) hx hb dX7_addFour_27 (by decide) ?_
      refine lv_iushr (v := ius x1 24) hx hb dX7_addFour_29 rfl ?_
      refine lv_sipush (v := 255) hx hb dX7_addFour_30 (by decide) ?_
      refine lv_iand hx hb dX7_addFour_33 ?_
      obtain ⟨j_3, hj_3, hi_3, h⟩ := ck_some h
      refine gx_iast S hK gx_ok hw t_2 j_3 hj_3 hi_3 dX7_addFour_34 (fun H locs hw => ?_)
      obtain ⟨σ_4, e_4, h⟩ := nm_some h
      rw [← e_4] at hw
      refine lv_aload_n hx hb dX7_addFour_35 rfl (lv_at hl 0 rfl) ?_
      refine gx_getr (j := 2) S hK hw t_1 cl_8 0 (by decide) rfl mw_129 rfl dX7_addFour_36 ?_
      refine lv_aload_n hx hb dX7_addFour_39 rfl (lv_at hl 0 rfl) ?_
      refine gx_get S hK hw t_1 cl_8 2 (by decide) rfl mw_131 rfl dX7_addFour_40 ?_
      refine lv_iconst (v := 1) hx hb dX7_addFour_43 (by decide) ?_
      refine lv_iadd hx hb dX7_addFour_44 ?_
      refine lv_iload_n hx hb dX7_addFour_45 rfl (lv_at hl 1 rfl) ?_
      refine lv_bipush (v := 16) hx hb dX7_addFour_46 (by decide) ?_
      refine lv_iushr (v := ius x1 16) hx hb dX7_addFour_48 rfl ?_
      refine lv_sipush (v := 255) hx hb dX7_addFour_49 (by decide) ?_
      refine lv_iand hx hb dX7_addFour_52 ?_
      obtain ⟨j_5, hj_5, hi_5, h⟩ := ck_some h
      refine gx_iast S hK gx_ok hw t_2 j_5 hj_5 hi_5 dX7_addFour_53 (fun H locs hw => ?_)
      obtain ⟨σ_6, e_6, h⟩ := nm_some h
      rw [← e_6] at hw
      refine lv_aload_n hx hb dX7_addFour_54 rfl (lv_at hl 0 rfl) ?_
      refine gx_getr (j := 2) S hK hw t_1 cl_8 0 (by decide) rfl mw_129 rfl dX7_addFour_55 ?_
      refine lv_aload_n hx hb dX7_addFour_58 rfl (lv_at hl 0 rfl) ?_
      refine gx_get S hK hw t_1 cl_8 2 (by decide) rfl mw_131 rfl dX7_addFour_59 ?_
      refine lv_iconst (v := 2) hx hb dX7_addFour_62 (by decide) ?_
      refine lv_iadd hx hb dX7_addFour_63 ?_
      refine lv_iload_n hx hb dX7_addFour_64 rfl (lv_at hl 1 rfl) ?_
      refine lv_bipush (v := 8) hx hb dX7_addFour_65 (by decide) ?_
      refine lv_iushr (v := ius x1 8) hx hb dX7_addFour_67 rfl ?_
      refine lv_sipush (v := 255) hx hb dX7_addFour_68 (by decide) ?_
      refine lv_iand hx hb dX7_addFour_71 ?_
      obtain ⟨j_7, hj_7, hi_7, h⟩ := ck_some h
      refine gx_iast S hK gx_ok hw t_2 j_7 hj_7 hi_7 dX7_addFour_72 (fun H locs hw => ?_)
      obtain ⟨σ_8, e_8, h⟩ := nm_some h
      rw [← e_8] at hw
      refine lv_aload_n hx hb dX7_addFour_73 rfl (lv_at hl 0 rfl) ?_
      refine gx_getr (j := 2) S hK hw t_1 cl_8 0 (by decide) rfl mw_129 rfl dX7_addFour_74 ?_
      refine lv_aload_n hx hb dX7_addFour_77 rfl (lv_at hl 0 rfl) ?_
      refine gx_get S hK hw t_1 cl_8 2 (by decide) rfl mw_131 rfl dX7_addFour_78 ?_
      refine lv_iconst (v := 3) hx hb dX7_addFour_81 (by decide) ?_
      refine lv_iadd hx hb dX7_addFour_82 ?_
      refine lv_iload_n hx hb dX7_addFour_83 rfl (lv_at hl 1 rfl) ?_
      refine lv_sipush (v := 255) hx hb dX7_addFour_84 (by decide) ?_
      refine lv_iand hx hb dX7_addFour_87 ?_
      obtain ⟨j_9, hj_9, hi_9, h⟩ := ck_some h
      refine gx_iast S hK gx_ok hw t_2 j_9 hj_9 hi_9 dX7_addFour_88 (fun H locs hw => ?_)
      obtain ⟨σ_10, e_10, h⟩ := nm_some h
      rw [← e_10] at hw
      refine lv_aload_n hx hb dX7_addFour_89 rfl (lv_at hl 0 rfl) ?_
      refine lv_dup hx hb dX7_addFour_90 rfl ?_
      refine gx_get S hK hw t_1 cl_8 2 (by decide) rfl mw_131 rfl dX7_addFour_91 ?_
      refine lv_iconst (v := 4) hx hb dX7_addFour_94 (by decide) ?_
      refine lv_iadd hx hb dX7_addFour_95 ?_
      refine gx_put S hK gx_ok hw t_1 cl_8 2 (by decide) rfl mw_131 rfl rfl (ty := .int) (v := (σ_10 1 2) + 4) (by decide +kernel) rfl rfl dX7_addFour_96 (fun H locs hw => ?_)
      obtain ⟨σ_11, e_11, h⟩ := nm_some h
      rw [← e_11] at hw
      refine lv_iconst (v := 1) hx hb dX7_addFour_99 (by decide) ?_
      obtain ⟨rfl, rfl, rfl⟩ := sm_inj h
      exact gx_ri (post := gq_p 1 σ_11 τ) (v := 1) S hr hlk hw rfl dX7_addFour_100 ⟨rfl, rfl, rfl⟩
    · rw [if_neg c_2] at h
      refine lv_iconst (v := 0) hx hb dX7_addFour_16 (by decide) ?_
      obtain ⟨rfl, rfl, rfl⟩ := sm_inj h
      exact gx_ri (post := gq_p 0 σ τ) (v := 0) S hr hlk hw rfl dX7_addFour_17 ⟨rfl, rfl, rfl⟩
set_option maxHeartbeats 4000000 in
set_option maxRecDepth 100000 in
theorem c_X7_addFour (l : Launch) {E : gE} (N : Nat) (σ : gI) (τ : gJ) (x1 : Int32) {r : Int32} {σ1 : gI} {τ1 : gJ} (h : B_X7_addFour_0 N σ τ x1 = some (r, σ1, τ1)) : gx_Mi l yX7_addFour cX7_addFour 2 (some .boolean) 0 gx_tb E σ τ [.ref (E.2.2 + 1), .int x1] (gq_p r σ1 τ1) := by
  refine gx_bi (by decide +kernel) (Nat.le_of_ble_eq_true rfl) ?_
  intro P9 e9 s m9 below meth C9 S hr hlk hK hw ls hl
  have hl : lv_has ls 2 [(0, .ref (E.2.2 + 1)), (1, .int x1)] := hl
  exact b_X7_addFour_0 l S hr hlk hK N σ τ x1 h hw hl
/-! X11_sign -/
def B_X11_sign_0 (N : Nat) (σ : gI) (τ : gJ) (x1 : Int32) : Option (Int32 × gI × gJ) := bd (B_X7_addFour_0 N σ τ x1) fun r_1 σ_1 τ_1 => if r_1 = 0 then (some ((-1), σ_1, τ_1)) else (some (σ_1 1 2, σ_1, τ_1))
set_option maxHeartbeats 4000000 in
set_option maxRecDepth 100000 in
theorem b_X11_sign_0 (l : Launch) (S : CallFix P9 m9 C9 cX11_sign 2 s av.toArray gx_G RX11) (hr : meth.sig.returnType = (some .int)) (hlk : meth.locks = false) (hK : gx_K E s) (N : Nat) (σ : gI) (τ : gJ) (x1 : Int32) {r : Int32} {σ1 : gI} {τ1 : gJ} (h : B_X11_sign_0 N σ τ x1 = some (r, σ1, τ1)) {H : Heap} {locs : List Loc} {ls : Array Slot} (hw : gx_W gx_tb gx_tb.length E s σ τ H locs) (hl : lv_has ls 2 [(0, .ref (E.2.2 + 0)), (1, .int x1)]) : W P9 l e9 (gx_rm 1) s m9 av.toArray below meth C9 H locs 0 0 (gq_Qi below av s E r σ1 τ1) (F0 m9 0 ls []) := by
  have hx := S.1
  have hb := S.2.1
  unfold B_X11_sign_0 at h
  refine lv_aload_n hx hb dX11_sign_0 rfl (lv_at hl 0 rfl) ?_
  refine gx_getr (j := 1) S hK hw t_0 cl_12 0 (by decide) rfl mw_447 rfl dX11_sign_1 ?_
  refine lv_iload_n hx hb dX11_sign_4 rfl (lv_at hl 1 rfl) ?_
  obtain ⟨r_1, σ_1, τ_1, q_1, h⟩ := bd_some h
  refine gx_cVi (As := [.int x1]) (rest := []) S hK gx_ok hw (c_X7_addFour l (E := E) N σ τ x1 q_1) cw_X11_103 t_1 cl_8 ⟨Nat.le_of_ble_eq_true rfl, Nat.le_of_ble_eq_true rfl⟩ rfl hl.1 rfl (Nat.le_of_ble_eq_true rfl) ⟨Nat.le_of_ble_eq_true rfl, Nat.le_of_ble_eq_true rfl⟩ dX11_sign_5 (fun r9 σ9 τ9 H locs hp hw => ?_)
  obtain ⟨rfl, rfl, rfl⟩ := hp
  refine lv_if_eq (tgt := 21) hx hb dX11_sign_8 (by decide) (fun c_2 => ?_) (fun c_2 => ?_)
  · rw [if_pos c_2] at h
    refine lv_iconst (v := (-1)) hx hb dX11_sign_21 (by decide) ?_
    obtain ⟨rfl, rfl, rfl⟩ := sm_inj h
    exact gx_ri (post := gq_p (-1) σ_1 τ_1) (v := (-1)) S hr hlk hw rfl dX11_sign_22 ⟨rfl, rfl, rfl⟩
  · rw [if_neg c_2] at h
    refine lv_aload_n hx hb dX11_sign_11 rfl (lv_at hl 0 rfl) ?_
    refine gx_getr (j := 1) S hK hw t_0 cl_12 0 (by decide) rfl mw_447 rfl dX11_sign_12 ?_
    refine gx_get S hK hw t_1 cl_8 2 (by decide) rfl mw_132 rfl dX11_sign_15 ?_
    refine lv_goto (tgt := 22) hx hb dX11_sign_18 (by decide) ?_
    obtain ⟨rfl, rfl, rfl⟩ := sm_inj h
    exact gx_ri (post := gq_p (σ_1 1 2) σ_1 τ_1) (v := σ_1 1 2) S hr hlk hw rfl dX11_sign_22 ⟨rfl, rfl, rfl⟩
set_option maxHeartbeats 4000000 in
set_option maxRecDepth 100000 in
theorem c_X11_sign (l : Launch) {E : gE} (N : Nat) (σ : gI) (τ : gJ) (x1 : Int32) {r : Int32} {σ1 : gI} {τ1 : gJ} (h : B_X11_sign_0 N σ τ x1 = some (r, σ1, τ1)) : gx_Mi l yX11_sign cX11_sign 2 (some .int) 1 gx_tb E σ τ [.ref (E.2.2 + 0), .int x1] (gq_p r σ1 τ1) := by
  refine gx_bi (by decide +kernel) (Nat.le_of_ble_eq_true rfl) ?_
  intro P9 e9 s m9 below meth C9 S hr hlk hK hw ls hl
  have hl : lv_has ls 2 [(0, .ref (E.2.2 + 0)), (1, .int x1)] := hl
  exact b_X11_sign_0 l S hr hlk hK N σ τ x1 h hw hl
/-! X11_soonest -/
def C_X11_soonest_50 (N : Nat) (rec_35 : gI → gJ → Int32 → Int32 → Int32 → Int32 → Int32 → Int32 → Int32 → Option (Int32 × gI × gJ)) (rec_50 : gI → gJ → Int32 → Int32 → Int32 → Int32 → Int32 → Int32 → Int32 → Int32 → Option (Int32 × gI × gJ)) (σ : gI) (τ : gJ) (x1 : Int32) (x2 : Int32) (x3 : Int32) (x4 : Int32) (x5 : Int32) (x6 : Int32) (x7 : Int32) (x8 : Int32) : Option (Int32 × gI × gJ) := if 30 < x8 then (nm (x7 + 1) fun v_2 => rec_35 σ τ x1 x2 x3 x4 x5 x6 v_2) else (if x4 ≤ x8 then (nm (x7 + 1) fun v_4 => rec_35 σ τ x1 x2 x3 x4 x5 x6 v_4) else (if x7 = x3 then (nm (x7 + 1) fun v_6 => rec_35 σ τ x1 x2 x3 x4 x5 x6 v_6) else (bd (B_X11_sailed_0 N σ τ x7 x1 x2 x8) fun r_7 σ_7 τ_7 => bd (B_X11_isIn_0 N σ_7 τ_7 r_7 x3) fun r_8 σ_8 τ_8 => if r_8 = 0 then (nm (x8 + 1) fun v_10 => rec_50 σ_8 τ_8 x1 x2 x3 x4 x5 x6 x7 v_10) else (bd (B_X11_minutesOf_0 N σ_8 τ_8 r_7) fun r_11 σ_11 τ_11 => if x4 ≤ r_11 then (nm (x8 + 1) fun v_13 => rec_50 σ_11 τ_11 x1 x2 x3 x4 x5 x6 x7 v_13) else (bd (B_X11_minutesOf_0 N σ_11 τ_11 r_7) fun r_14 σ_14 τ_14 => nm (x8 + 1) fun v_15 => rec_50 σ_14 τ_14 x1 x2 x3 r_14 x7 x8 x7 v_15)))))
def H_X11_soonest_50 (N : Nat) (rec_35 : gI → gJ → Int32 → Int32 → Int32 → Int32 → Int32 → Int32 → Int32 → Option (Int32 × gI × gJ)) : Nat → gI → gJ → Int32 → Int32 → Int32 → Int32 → Int32 → Int32 → Int32 → Int32 → Option (Int32 × gI × gJ) := itn (fun rec_50 => C_X11_soonest_50 N rec_35 rec_50) (fun _ _ _ _ _ _ _ _ _ _ => none)
def C_X11_soonest_35 (N : Nat) (rec_35 : gI → gJ → Int32 → Int32 → Int32 → Int32 → Int32 → Int32 → Int32 → Option (Int32 × gI × gJ)) (σ : gI) (τ : gJ) (x1 : Int32) (x2 : Int32) (x3 : Int32) (x4 : Int32) (x5 : Int32) (x6 : Int32) (x7 : Int32) : Option (Int32 × gI × gJ) := if σ 3 6 ≤ x7 then (if x5 = (-1) then (some ((-2), σ, τ)) else (bd (B_X4_tell__0 N σ τ x5.toInt64 x6.toInt64) fun _ σ_3 τ_3 => some (x4, σ_3, τ_3))) else (H_X11_soonest_50 N rec_35 N σ τ x1 x2 x3 x4 x5 x6 x7 0)
def H_X11_soonest_35 (N : Nat) : Nat → gI → gJ → Int32 → Int32 → Int32 → Int32 → Int32 → Int32 → Int32 → Option (Int32 × gI × gJ) := itn (fun rec_35 => C_X11_soonest_35 N rec_35) (fun _ _ _ _ _ _ _ _ _ => none)
def B_X11_soonest_0 (N : Nat) (σ : gI) (τ : gJ) (x1 : Int32) (x2 : Int32) (x3 : Int32) : Option (Int32 × gI × gJ) := bd (B_X11_isLoad_0 N σ τ x1 x2) fun r_1 σ_1 τ_1 => if r_1 = 0 then (some ((-1), σ_1, τ_1)) else (bd (B_X8_isKitchen_0 N σ_1 τ_1 x3) fun r_3 σ_3 τ_3 => if r_3 = 0 then (some ((-1), σ_3, τ_3)) else (H_X11_soonest_35 N N σ_3 τ_3 x1 x2 x3 301 (-1) (-1) 0))
set_option maxHeartbeats 4000000 in
set_option maxRecDepth 100000 in
theorem k_X11_soonest_50 (l : Launch) (S : CallFix P9 m9 C9 cX11_soonest 10 s av.toArray gx_G RX11) (hr : meth.sig.returnType = (some .int)) (hlk : meth.locks = false) (hK : gx_K E s) (N : Nat) (rec_35 : gI → gJ → Int32 → Int32 → Int32 → Int32 → Int32 → Int32 → Int32 → Option (Int32 × gI × gJ)) (hrec_35 : ∀ (σ : gI) (τ : gJ) (x1 : Int32) (x2 : Int32) (x3 : Int32) (x4 : Int32) (x5 : Int32) (x6 : Int32) (x7 : Int32) (r : Int32) (σ1 : gI) (τ1 : gJ) (H : Heap) (locs : List Loc) (ls : Array Slot), rec_35 σ τ x1 x2 x3 x4 x5 x6 x7 = some (r, σ1, τ1) → gx_W gx_tb gx_tb.length E s σ τ H locs → lv_has ls 10 [(0, .ref (E.2.2 + 0)), (1, .int x1), (2, .int x2), (3, .int x3), (4, .int x4), (5, .int x5), (6, .int x6), (7, .int x7)] → W P9 l e9 (gx_rm 6) s m9 av.toArray below meth C9 H locs 0 0 (gq_Qi below av s E r σ1 τ1) (F0 m9 35 ls [])) (rec_50 : gI → gJ → Int32 → Int32 → Int32 → Int32 → Int32 → Int32 → Int32 → Int32 → Option (Int32 × gI × gJ)) (hrec_50 : ∀ (σ : gI) (τ : gJ) (x1 : Int32) (x2 : Int32) (x3 : Int32) (x4 : Int32) (x5 : Int32) (x6 : Int32) (x7 : Int32) (x8 : Int32) (r : Int32) (σ1 : gI) (τ1 : gJ) (H : Heap) (locs : List Loc) (ls : Array Slot), rec_50 σ τ x1 x2 x3 x4 x5 x6 x7 x8 = some (r, σ1, τ1) → gx_W gx_tb gx_tb.length E s σ τ H locs → lv_has ls 10 [(0, .ref (E.2.2 + 0)), (1, .int x1), (2, .int x2), (3, .int x3), (4, .int x4), (5, .int x5), (6, .int x6), (7, .int x7), (8, .int x8)] → W P9 l e9 (gx_rm 6) s m9 av.toArray below meth C9 H locs 0 0 (gq_Qi below av s E r σ1 τ1) (F0 m9 50 ls [])) (σ : gI) (τ : gJ) (x1 : Int32) (x2 : Int32) (x3 : Int32) (x4 : Int32) (x5 : Int32) (x6 : Int32) (x7 : Int32) (x8 : Int32) {r : Int32} {σ1 : gI} {τ1 : gJ} (h : C_X11_soonest_50 N rec_35 rec_50 σ τ x1 x2 x3 x4 x5 x6 x7 x8 = some (r, σ1, τ1)) {H : Heap} {locs : List Loc} {ls : Array Slot} (hw : gx_W gx_tb gx_tb.length E s σ τ H locs) (hl : lv_has ls 10 [(0, .ref (E.2.2 + 0)), (1, .int x1), (2, .int x2), (3, .int x3), (4, .int x4), (5, .int x5), (6, .int x6), (7, .int x7), (8, .int x8)]) : W P9 l e9 (gx_rm 6) s m9 av.toArray below meth C9 H locs 0 0 (gq_Qi below av s E r σ1 τ1) (F0 m9 50 ls []) := by
  have hx := S.1
  have hb := S.2.1
  unfold C_X11_soonest_50 at h
  refine lv_iload hx hb dX11_soonest_50 (lv_at hl 8 rfl) ?_
  refine lv_bipush (v := 30) hx hb dX11_soonest_52 (by decide) ?_
  refine lv_icmp_gt (tgt := 122) hx hb dX11_soonest_54 (by decide) (fun c_1 => ?_) (fun c_1 => ?_)
  · rw [if_pos c_1] at h
    refine lv_iinc (v := x7 + 1) (lv' := [(7, .int (x7 + 1)), (0, .ref (E.2.2 + 0)), (1, .int x1), (2, .int x2), (3, .int x3), (4, .int x4), (5, .int x5), (6, .int x6), (8, .int x8)]) hx hb dX11_soonest_122 hl (k := 7) rfl rfl (by decide) rfl (fun ls hl => ?_)
    obtain ⟨v_2, e_2, h⟩ := nm_some h
    have hl : lv_has ls 10 [(7, .int v_2), (0, .ref (E.2.2 + 0)), (1, .int x1), (2, .int x2), (3, .int x3), (4, .int x4), (5, .int x5), (6, .int x6), (8, .int x8)] := by rw [e_2]; exact hl
    refine lv_goto (tgt := 35) hx hb dX11_soonest_125 (by decide) ?_
    exact hrec_35 σ τ x1 x2 x3 x4 x5 x6 v_2 _ _ _ _ _ _ h hw (lv_sub hl [1, 2, 3, 4, 5, 6, 7, 0] rfl)
  · rw [if_neg c_1] at h
    refine lv_iload hx hb dX11_soonest_57 (lv_at hl 8 rfl) ?_
    refine lv_iload hx hb dX11_soonest_59 (lv_at hl 4 rfl) ?_
    refine lv_icmp_ge (tgt := 122) hx hb dX11_soonest_61 (by decide) (fun c_3 => ?_) (fun c_3 => ?_)
    · rw [if_pos c_3] at h
      refine lv_iinc (v := x7 + 1) (lv' := [(7, .int (x7 + 1)), (0, .ref (E.2.2 + 0)), (1, .int x1), (2, .int x2), (3, .int x3), (4, .int x4), (5, .int x5), (6, .int x6), (8, .int x8)]) hx hb dX11_soonest_122 hl (k := 7) rfl rfl (by decide) rfl (fun ls hl => ?_)
      obtain ⟨v_4, e_4, h⟩ := nm_some h
      have hl : lv_has ls 10 [(7, .int v_4), (0, .ref (E.2.2 + 0)), (1, .int x1), (2, .int x2), (3, .int x3), (4, .int x4), (5, .int x5), (6, .int x6), (8, .int x8)] := by rw [e_4]; exact hl
      refine lv_goto (tgt := 35) hx hb dX11_soonest_125 (by decide) ?_
      exact hrec_35 σ τ x1 x2 x3 x4 x5 x6 v_4 _ _ _ _ _ _ h hw (lv_sub hl [1, 2, 3, 4, 5, 6, 7, 0] rfl)
    · rw [if_neg c_3] at h
      refine lv_iload hx hb dX11_soonest_64 (lv_at hl 7 rfl) ?_
      refine lv_iload_n hx hb dX11_soonest_66 rfl (lv_at hl 3 rfl) ?_
      refine lv_icmp_eq (tgt := 122) hx hb dX11_soonest_67 (by decide) (fun c_5 => ?_) (fun c_5 => ?_)
      · rw [if_pos c_5] at h
        refine lv_iinc (v := x7 + 1) (lv' := [(7, .int (x7 + 1)), (0, .ref (E.2.2 + 0)), (1, .int x1), (2, .int x2), (3, .int x3), (4, .int x4), (5, .int x5), (6, .int x6), (8, .int x8)]) hx hb dX11_soonest_122 hl (k := 7) rfl rfl (by decide) rfl (fun ls hl => ?_)
        obtain ⟨v_6, e_6, h⟩ := nm_some h
        have hl : lv_has ls 10 [(7, .int v_6), (0, .ref (E.2.2 + 0)), (1, .int x1), (2, .int x2), (3, .int x3), (4, .int x4), (5, .int x5), (6, .int x6), (8, .int x8)] := by rw [e_6]; exact hl
        refine lv_goto (tgt := 35) hx hb dX11_soonest_125 (by decide) ?_
        exact hrec_35 σ τ x1 x2 x3 x4 x5 x6 v_6 _ _ _ _ _ _ h hw (lv_sub hl [1, 2, 3, 4, 5, 6, 7, 0] rfl)
      · rw [if_neg c_5] at h
        refine lv_aload_n hx hb dX11_soonest_70 rfl (lv_at hl 0 rfl) ?_
        refine lv_iload hx hb dX11_soonest_71 (lv_at hl 7 rfl) ?_
        refine lv_iload_n hx hb dX11_soonest_73 rfl (lv_at hl 1 rfl) ?_
        refine lv_iload_n hx hb dX11_soonest_74 rfl (lv_at hl 2 rfl) ?_
        refine lv_iload hx hb dX11_soonest_75 (lv_at hl 8 rfl) ?_
        obtain ⟨r_7, σ_7, τ_7, q_7, h⟩ := bd_some h
        refine gx_cVi (As := [.int x7, .int x1, .int x2, .int x8]) (rest := []) S hK gx_ok hw (c_X11_sailed l (E := E) N σ τ x7 x1 x2 x8 q_7) cw_X11_313 t_0 cl_12 ⟨Nat.le_of_ble_eq_true rfl, Nat.le_of_ble_eq_true rfl⟩ rfl hl.1 rfl (Nat.le_of_ble_eq_true rfl) ⟨Nat.le_of_ble_eq_true rfl, Nat.le_of_ble_eq_true rfl⟩ dX11_soonest_77 (fun r9 σ9 τ9 H locs hp hw => ?_)
        obtain ⟨rfl, rfl, rfl⟩ := hp
        refine lv_istore (lv' := [(9, .int r_7), (0, .ref (E.2.2 + 0)), (1, .int x1), (2, .int x2), (3, .int x3), (4, .int x4), (5, .int x5), (6, .int x6), (7, .int x7), (8, .int x8)]) hx hb dX11_soonest_80 hl (by decide) rfl (fun ls hl => ?_)
        refine lv_iload hx hb dX11_soonest_82 (lv_at hl 0 rfl) ?_
        refine lv_iload_n hx hb dX11_soonest_84 rfl (lv_at hl 4 rfl) ?_
        obtain ⟨r_8, σ_8, τ_8, q_8, h⟩ := bd_some h
        refine gx_cSi (As := [.int r_7, .int x3]) (rest := []) S hK gx_ok hw (c_X11_isIn l (E := E) N σ_7 τ_7 r_7 x3 q_8) cw_X11_317 ⟨Nat.le_of_ble_eq_true rfl, Nat.le_of_ble_eq_true rfl⟩ rfl hl.1 rfl (Nat.le_of_ble_eq_true rfl) ⟨Nat.le_of_ble_eq_true rfl, Nat.le_of_ble_eq_true rfl⟩ dX11_soonest_85 (fun r9 σ9 τ9 H locs hp hw => ?_)
        obtain ⟨rfl, rfl, rfl⟩ := hp
        refine lv_if_eq (tgt := 116) hx hb dX11_soonest_88 (by decide) (fun c_9 => ?_) (fun c_9 => ?_)
        · rw [if_pos c_9] at h
          refine lv_iinc (v := x8 + 1) (lv' := [(8, .int (x8 + 1)), (9, .int r_7), (0, .ref (E.2.2 + 0)), (1, .int x1), (2, .int x2), (3, .int x3), (4, .int x4), (5, .int x5), (6, .int x6), (7, .int x7)]) hx hb dX11_soonest_116 hl (k := 9) rfl rfl (by decide) rfl (fun ls hl => ?_)
          obtain ⟨v_10, e_10, h⟩ := nm_some h
          have hl : lv_has ls 10 [(8, .int v_10), (9, .int r_7), (0, .ref (E.2.2 + 0)), (1, .int x1), (2, .int x2), (3, .int x3), (4, .int x4), (5, .int x5), (6, .int x6), (7, .int x7)] := by rw [e_10]; exact hl
          refine lv_goto (tgt := 50) hx hb dX11_soonest_119 (by decide) ?_
          exact hrec_50 σ_8 τ_8 x1 x2 x3 x4 x5 x6 x7 v_10 _ _ _ _ _ _ h hw (lv_sub hl [2, 3, 4, 5, 6, 7, 8, 9, 0] rfl)
        · rw [if_neg c_9] at h
          refine lv_iload hx hb dX11_soonest_91 (lv_at hl 0 rfl) ?_
          obtain ⟨r_11, σ_11, τ_11, q_11, h⟩ := bd_some h
          refine gx_cSi (As := [.int r_7]) (rest := []) S hK gx_ok hw (c_X11_minutesOf l (E := E) N σ_8 τ_8 r_7 q_11) cw_X11_320 ⟨Nat.le_of_ble_eq_true rfl, Nat.le_of_ble_eq_true rfl⟩ rfl hl.1 rfl (Nat.le_of_ble_eq_true rfl) ⟨Nat.le_of_ble_eq_true rfl, Nat.le_of_ble_eq_true rfl⟩ dX11_soonest_93 (fun r9 σ9 τ9 H locs hp hw => ?_)
          obtain ⟨rfl, rfl, rfl⟩ := hp
          refine lv_iload hx hb dX11_soonest_96 (lv_at hl 5 rfl) ?_
          refine lv_icmp_ge (tgt := 116) hx hb dX11_soonest_98 (by decide) (fun c_12 => ?_) (fun c_12 => ?_)
          · rw [if_pos c_12] at h
            refine lv_iinc (v := x8 + 1) (lv' := [(8, .int (x8 + 1)), (9, .int r_7), (0, .ref (E.2.2 + 0)), (1, .int x1), (2, .int x2), (3, .int x3), (4, .int x4), (5, .int x5), (6, .int x6), (7, .int x7)]) hx hb dX11_soonest_116 hl (k := 9) rfl rfl (by decide) rfl (fun ls hl => ?_)
            obtain ⟨v_13, e_13, h⟩ := nm_some h
            have hl : lv_has ls 10 [(8, .int v_13), (9, .int r_7), (0, .ref (E.2.2 + 0)), (1, .int x1), (2, .int x2), (3, .int x3), (4, .int x4), (5, .int x5), (6, .int x6), (7, .int x7)] := by rw [e_13]; exact hl
            refine lv_goto (tgt := 50) hx hb dX11_soonest_119 (by decide) ?_
            exact hrec_50 σ_11 τ_11 x1 x2 x3 x4 x5 x6 x7 v_13 _ _ _ _ _ _ h hw (lv_sub hl [2, 3, 4, 5, 6, 7, 8, 9, 0] rfl)
          · rw [if_neg c_12] at h
            refine lv_iload hx hb dX11_soonest_101 (lv_at hl 0 rfl) ?_
            obtain ⟨r_14, σ_14, τ_14, q_14, h⟩ := bd_some h
            refine gx_cSi (As := [.int r_7]) (rest := []) S hK gx_ok hw (c_X11_minutesOf l (E := E) N σ_11 τ_11 r_7 q_14) cw_X11_320 ⟨Nat.le_of_ble_eq_true rfl, Nat.le_of_ble_eq_true rfl⟩ rfl hl.1 rfl (Nat.le_of_ble_eq_true rfl) ⟨Nat.le_of_ble_eq_true rfl, Nat.le_of_ble_eq_true rfl⟩ dX11_soonest_103 (fun r9 σ9 τ9 H locs hp hw => ?_)
            obtain ⟨rfl, rfl, rfl⟩ := hp
            refine lv_istore (lv' := [(4, .int r_14), (9, .int r_7), (0, .ref (E.2.2 + 0)), (1, .int x1), (2, .int x2), (3, .int x3), (5, .int x5), (6, .int x6), (7, .int x7), (8, .int x8)]) hx hb dX11_soonest_106 hl (by decide) rfl (fun ls hl => ?_)
            refine lv_iload hx hb dX11_soonest_108 (lv_at hl 8 rfl) ?_
            refine lv_istore (lv' := [(5, .int x7), (4, .int r_14), (9, .int r_7), (0, .ref (E.2.2 + 0)), (1, .int x1), (2, .int x2), (3, .int x3), (6, .int x6), (7, .int x7), (8, .int x8)]) hx hb dX11_soonest_110 hl (by decide) rfl (fun ls hl => ?_)
            refine lv_iload hx hb dX11_soonest_112 (lv_at hl 9 rfl) ?_
            refine lv_istore (lv' := [(6, .int x8), (5, .int x7), (4, .int r_14), (9, .int r_7), (0, .ref (E.2.2 + 0)), (1, .int x1), (2, .int x2), (3, .int x3), (7, .int x7), (8, .int x8)]) hx hb dX11_soonest_114 hl (by decide) rfl (fun ls hl => ?_)
            refine lv_iinc (v := x8 + 1) (lv' := [(8, .int (x8 + 1)), (6, .int x8), (5, .int x7), (4, .int r_14), (9, .int r_7), (0, .ref (E.2.2 + 0)), (1, .int x1), (2, .int x2), (3, .int x3), (7, .int x7)]) hx hb dX11_soonest_116 hl (k := 9) rfl rfl (by decide) rfl (fun ls hl => ?_)
            obtain ⟨v_15, e_15, h⟩ := nm_some h
            have hl : lv_has ls 10 [(8, .int v_15), (6, .int x8), (5, .int x7), (4, .int r_14), (9, .int r_7), (0, .ref (E.2.2 + 0)), (1, .int x1), (2, .int x2), (3, .int x3), (7, .int x7)] := by rw [e_15]; exact hl
            refine lv_goto (tgt := 50) hx hb dX11_soonest_119 (by decide) ?_
            exact hrec_50 σ_14 τ_14 x1 x2 x3 r_14 x7 x8 x7 v_15 _ _ _ _ _ _ h hw (lv_sub hl [5, 6, 7, 8, 3, 2, 1, 9, 0] rfl)
set_option maxHeartbeats 4000000 in
set_option maxRecDepth 100000 in
theorem h_X11_soonest_50 (l : Launch) (S : CallFix P9 m9 C9 cX11_soonest 10 s av.toArray gx_G RX11) (hr : meth.sig.returnType = (some .int)) (hlk : meth.locks = false) (hK : gx_K E s) (N : Nat) (rec_35 : gI → gJ → Int32 → Int32 → Int32 → Int32 → Int32 → Int32 → Int32 → Option (Int32 × gI × gJ)) (hrec_35 : ∀ (σ : gI) (τ : gJ) (x1 : Int32) (x2 : Int32) (x3 : Int32) (x4 : Int32) (x5 : Int32) (x6 : Int32) (x7 : Int32) (r : Int32) (σ1 : gI) (τ1 : gJ) (H : Heap) (locs : List Loc) (ls : Array Slot), rec_35 σ τ x1 x2 x3 x4 x5 x6 x7 = some (r, σ1, τ1) → gx_W gx_tb gx_tb.length E s σ τ H locs → lv_has ls 10 [(0, .ref (E.2.2 + 0)), (1, .int x1), (2, .int x2), (3, .int x3), (4, .int x4), (5, .int x5), (6, .int x6), (7, .int x7)] → W P9 l e9 (gx_rm 6) s m9 av.toArray below meth C9 H locs 0 0 (gq_Qi below av s E r σ1 τ1) (F0 m9 35 ls [])) : ∀ (n : Nat) (σ : gI) (τ : gJ) (x1 : Int32) (x2 : Int32) (x3 : Int32) (x4 : Int32) (x5 : Int32) (x6 : Int32) (x7 : Int32) (x8 : Int32) (r : Int32) (σ1 : gI) (τ1 : gJ), H_X11_soonest_50 N rec_35 n σ τ x1 x2 x3 x4 x5 x6 x7 x8 = some (r, σ1, τ1) → ∀ (H : Heap) (locs : List Loc) (ls : Array Slot), gx_W gx_tb gx_tb.length E s σ τ H locs → lv_has ls 10 [(0, .ref (E.2.2 + 0)), (1, .int x1), (2, .int x2), (3, .int x3), (4, .int x4), (5, .int x5), (6, .int x6), (7, .int x7), (8, .int x8)] → W P9 l e9 (gx_rm 6) s m9 av.toArray below meth C9 H locs 0 0 (gq_Qi below av s E r σ1 τ1) (F0 m9 50 ls []) := by
  intro n
  induction n with
  | zero => intro σ τ x1 x2 x3 x4 x5 x6 x7 x8 r σ1 τ1 h; cases h
  | succ n ih =>
    intro σ τ x1 x2 x3 x4 x5 x6 x7 x8 r σ1 τ1 h H locs ls hw hl
    exact k_X11_soonest_50 l S hr hlk hK N rec_35 hrec_35 (H_X11_soonest_50 N rec_35 n) (fun σ τ x1 x2 x3 x4 x5 x6 x7 x8 r σ1 τ1 H locs ls h hw hl => ih σ τ x1 x2 x3 x4 x5 x6 x7 x8 r σ1 τ1 h H locs ls hw hl) σ τ x1 x2 x3 x4 x5 x6 x7 x8 h hw hl
set_option maxHeartbeats 4000000 in
set_option maxRecDepth 100000 in
theorem k_X11_soonest_35 (l : Launch) (S : CallFix P9 m9 C9 cX11_soonest 10 s av.toArray gx_G RX11) (hr : meth.sig.returnType = (some .int)) (hlk : meth.locks = false) (hK : gx_K E s) (N : Nat) (rec_35 : gI → gJ → Int32 → Int32 → Int32 → Int32 → Int32 → Int32 → Int32 → Option (Int32 × gI × gJ)) (hrec_35 : ∀ (σ : gI) (τ : gJ) (x1 : Int32) (x2 : Int32) (x3 : Int32) (x4 : Int32) (x5 : Int32) (x6 : Int32) (x7 : Int32) (r : Int32) (σ1 : gI) (τ1 : gJ) (H : Heap) (locs : List Loc) (ls : Array Slot), rec_35 σ τ x1 x2 x3 x4 x5 x6 x7 = some (r, σ1, τ1) → gx_W gx_tb gx_tb.length E s σ τ H locs → lv_has ls 10 [(0, .ref (E.2.2 + 0)), (1, .int x1), (2, .int x2), (3, .int x3), (4, .int x4), (5, .int x5), (6, .int x6), (7, .int x7)] → W P9 l e9 (gx_rm 6) s m9 av.toArray below meth C9 H locs 0 0 (gq_Qi below av s E r σ1 τ1) (F0 m9 35 ls [])) (σ : gI) (τ : gJ) (x1 : Int32) (x2 : Int32) (x3 : Int32) (x4 : Int32) (x5 : Int32) (x6 : Int32) (x7 : Int32) {r : Int32} {σ1 : gI} {τ1 : gJ} (h : C_X11_soonest_35 N rec_35 σ τ x1 x2 x3 x4 x5 x6 x7 = some (r, σ1, τ1)) {H : Heap} {locs : List Loc} {ls : Array Slot} (hw : gx_W gx_tb gx_tb.length E s σ τ H locs) (hl : lv_has ls 10 [(0, .ref (E.2.2 + 0)), (1, .int x1), (2, .int x2), (3, .int x3), (4, .int x4), (5, .int x5), (6, .int x6), (7, .int x7)]) : W P9 l e9 (gx_rm 6) s m9 av.toArray below meth C9 H locs 0 0 (gq_Qi below av s E r σ1 τ1) (F0 m9 35 ls []) := by
  have hx := S.1
  have hb := S.2.1
  unfold C_X11_soonest_35 at h
  refine lv_iload hx hb dX11_soonest_35 (lv_at hl 7 rfl) ?_
  refine lv_aload_n hx hb dX11_soonest_37 rfl (lv_at hl 0 rfl) ?_
  refine gx_getr (j := 3) S hK hw t_0 cl_12 1 (by decide) rfl mw_448 rfl dX11_soonest_38 ?_
  refine gx_get S hK hw t_3 cl_9 6 (by decide) rfl mw_155 rfl dX11_soonest_41 ?_
  refine lv_icmp_ge (tgt := 128) hx hb dX11_soonest_44 (by decide) (fun c_1 => ?_) (fun c_1 => ?_)
  · rw [if_pos c_1] at h
    refine lv_iload hx hb dX11_soonest_128 (lv_at hl 5 rfl) ?_
    refine lv_iconst (v := (-1)) hx hb dX11_soonest_130 (by decide) ?_
    refine lv_icmp_ne (tgt := 137) hx hb dX11_soonest_131 (by decide) (fun c_2 => ?_) (fun c_2 => ?_)
    · rw [if_neg c_2] at h
      refine lv_aload_n hx hb dX11_soonest_137 rfl (lv_at hl 0 rfl) ?_
      refine gx_getr (j := 156) S hK hw t_0 cl_12 13 (by decide) rfl mw_460 rfl dX11_soonest_138 ?_
      refine lv_iload hx hb dX11_soonest_141 (lv_at hl 5 rfl) ?_
      refine lv_i2l (v := x5.toInt64) hx hb dX11_soonest_143 rfl ?_
      refine lv_iload hx hb dX11_soonest_144 (lv_at hl 6 rfl) ?_
      refine lv_i2l (v := x6.toInt64) hx hb dX11_soonest_146 rfl ?_
      obtain ⟨u_3, σ_3, τ_3, q_3, h⟩ := bd_some h
      refine gx_cVv (As := [.long x5.toInt64, .long x6.toInt64]) (rest := []) S hK gx_ok hw (c_X4_tell_ l (E := E) N σ τ x5.toInt64 x6.toInt64 q_3) cw_X11_257 t_156 cl_5 ⟨Nat.le_of_ble_eq_true rfl, Nat.le_of_ble_eq_true rfl⟩ rfl hl.1 rfl (Nat.le_of_ble_eq_true rfl) ⟨Nat.le_of_ble_eq_true rfl, Nat.le_of_ble_eq_true rfl⟩ dX11_soonest_147 (fun σ9 τ9 H locs hp hw => ?_)
      obtain ⟨rfl, rfl⟩ := hp
      refine lv_iload hx hb dX11_soonest_150 (lv_at hl 4 rfl) ?_
      obtain ⟨rfl, rfl, rfl⟩ := sm_inj h
      exact gx_ri (post := gq_p x4 σ_3 τ_3) (v := x4) S hr hlk hw rfl dX11_soonest_152 ⟨rfl, rfl, rfl⟩
    · rw [if_pos c_2] at h
      refine lv_bipush (v := (-2)) hx hb dX11_soonest_134 (by decide) ?_
      obtain ⟨rfl, rfl, rfl⟩ := sm_inj h
      exact gx_ri (post := gq_p (-2) σ τ) (v := (-2)) S hr hlk hw rfl dX11_soonest_136 ⟨rfl, rfl, rfl⟩
  · rw [if_neg c_1] at h
    refine lv_iconst (v := 0) hx hb dX11_soonest_47 (by decide) ?_
    refine lv_istore (lv' := [(8, .int 0), (0, .ref (E.2.2 + 0)), (1, .int x1), (2, .int x2), (3, .int x3), (4, .int x4), (5, .int x5), (6, .int x6), (7, .int x7)]) hx hb dX11_soonest_48 hl (by decide) rfl (fun ls hl => ?_)
    exact h_X11_soonest_50 l S hr hlk hK N rec_35 hrec_35 N σ τ x1 x2 x3 x4 x5 x6 x7 0 _ _ _ h _ _ _ hw (lv_sub hl [1, 2, 3, 4, 5, 6, 7, 8, 0] rfl)
set_option maxHeartbeats 4000000 in
set_option maxRecDepth 100000 in
theorem h_X11_soonest_35 (l : Launch) (S : CallFix P9 m9 C9 cX11_soonest 10 s av.toArray gx_G RX11) (hr : meth.sig.returnType = (some .int)) (hlk : meth.locks = false) (hK : gx_K E s) (N : Nat) : ∀ (n : Nat) (σ : gI) (τ : gJ) (x1 : Int32) (x2 : Int32) (x3 : Int32) (x4 : Int32) (x5 : Int32) (x6 : Int32) (x7 : Int32) (r : Int32) (σ1 : gI) (τ1 : gJ), H_X11_soonest_35 N n σ τ x1 x2 x3 x4 x5 x6 x7 = some (r, σ1, τ1) → ∀ (H : Heap) (locs : List Loc) (ls : Array Slot), gx_W gx_tb gx_tb.length E s σ τ H locs → lv_has ls 10 [(0, .ref (E.2.2 + 0)), (1, .int x1), (2, .int x2), (3, .int x3), (4, .int x4), (5, .int x5), (6, .int x6), (7, .int x7)] → W P9 l e9 (gx_rm 6) s m9 av.toArray below meth C9 H locs 0 0 (gq_Qi below av s E r σ1 τ1) (F0 m9 35 ls []) := by
  intro n
  induction n with
  | zero => intro σ τ x1 x2 x3 x4 x5 x6 x7 r σ1 τ1 h; cases h
  | succ n ih =>
    intro σ τ x1 x2 x3 x4 x5 x6 x7 r σ1 τ1 h H locs ls hw hl
    exact k_X11_soonest_35 l S hr hlk hK N (H_X11_soonest_35 N n) (fun σ τ x1 x2 x3 x4 x5 x6 x7 r σ1 τ1 H locs ls h hw hl => ih σ τ x1 x2 x3 x4 x5 x6 x7 r σ1 τ1 h H locs ls hw hl) σ τ x1 x2 x3 x4 x5 x6 x7 h hw hl
set_option maxHeartbeats 4000000 in
set_option maxRecDepth 100000 in
theorem b_X11_soonest_0 (l : Launch) (S : CallFix P9 m9 C9 cX11_soonest 10 s av.toArray gx_G RX11) (hr : meth.sig.returnType = (some .int)) (hlk : meth.locks = false) (hK : gx_K E s) (N : Nat) (σ : gI) (τ : gJ) (x1 : Int32) (x2 : Int32) (x3 : Int32) {r : Int32} {σ1 : gI} {τ1 : gJ} (h : B_X11_soonest_0 N σ τ x1 x2 x3 = some (r, σ1, τ1)) {H : Heap} {locs : List Loc} {ls : Array Slot} (hw : gx_W gx_tb gx_tb.length E s σ τ H locs) (hl : lv_has ls 10 [(0, .ref (E.2.2 + 0)), (1, .int x1), (2, .int x2), (3, .int x3)]) : W P9 l e9 (gx_rm 6) s m9 av.toArray below meth C9 H locs 0 0 (gq_Qi below av s E r σ1 τ1) (F0 m9 0 ls []) := by
  have hx := S.1
  have hb := S.2.1
  unfold B_X11_soonest_0 at h
  refine lv_iload_n hx hb dX11_soonest_0 rfl (lv_at hl 1 rfl) ?_
  refine lv_iload_n hx hb dX11_soonest_1 rfl (lv_at hl 2 rfl) ?_
  obtain ⟨r_1, σ_1, τ_1, q_1, h⟩ := bd_some h
  refine gx_cSi (As := [.int x1, .int x2]) (rest := []) S hK gx_ok hw (c_X11_isLoad l (E := E) N σ τ x1 x2 q_1) cw_X11_227 ⟨Nat.le_of_ble_eq_true rfl, Nat.le_of_ble_eq_true rfl⟩ rfl hl.1 rfl (Nat.le_of_ble_eq_true rfl) ⟨Nat.le_of_ble_eq_true rfl, Nat.le_of_ble_eq_true rfl⟩ dX11_soonest_2 (fun r9 σ9 τ9 H locs hp hw => ?_)
  obtain ⟨rfl, rfl, rfl⟩ := hp
  refine lv_if_eq (tgt := 19) hx hb dX11_soonest_5 (by decide) (fun c_2 => ?_) (fun c_2 => ?_)
  · rw [if_pos c_2] at h
    refine lv_iconst (v := (-1)) hx hb dX11_soonest_19 (by decide) ?_
    obtain ⟨rfl, rfl, rfl⟩ := sm_inj h
    exact gx_ri (post := gq_p (-1) σ_1 τ_1) (v := (-1)) S hr hlk hw rfl dX11_soonest_20 ⟨rfl, rfl, rfl⟩
  · rw [if_neg c_2] at h
    refine lv_aload_n hx hb dX11_soonest_8 rfl (lv_at hl 0 rfl) ?_
    refine gx_getr (j := 3) S hK hw t_0 cl_12 1 (by decide) rfl mw_448 rfl dX11_soonest_9 ?_
    refine lv_iload_n hx hb dX11_soonest_12 rfl (lv_at hl 3 rfl) ?_
    obtain ⟨r_3, σ_3, τ_3, q_3, h⟩ := bd_some h
    refine gx_cVi (As := [.int x3]) (rest := []) S hK gx_ok hw (c_X8_isKitchen l (E := E) N σ_1 τ_1 x3 q_3) cw_X11_234 t_3 cl_9 ⟨Nat.le_of_ble_eq_true rfl, Nat.le_of_ble_eq_true rfl⟩ rfl hl.1 rfl (Nat.le_of_ble_eq_true rfl) ⟨Nat.le_of_ble_eq_true rfl, Nat.le_of_ble_eq_true rfl⟩ dX11_soonest_13 (fun r9 σ9 τ9 H locs hp hw => ?_)
    obtain ⟨rfl, rfl, rfl⟩ := hp
    refine lv_if_ne (tgt := 21) hx hb dX11_soonest_16 (by decide) (fun c_4 => ?_) (fun c_4 => ?_)
    · rw [if_neg c_4] at h
      refine lv_sipush (v := 301) hx hb dX11_soonest_21 (by decide) ?_
      refine lv_istore (lv' := [(4, .int 301), (0, .ref (E.2.2 + 0)), (1, .int x1), (2, .int x2), (3, .int x3)]) hx hb dX11_soonest_24 hl (by decide) rfl (fun ls hl => ?_)
      refine lv_iconst (v := (-1)) hx hb dX11_soonest_26 (by decide) ?_
      refine lv_istore (lv' := [(5, .int (-1)), (4, .int 301), (0, .ref (E.2.2 + 0)), (1, .int x1), (2, .int x2), (3, .int x3)]) hx hb dX11_soonest_27 hl (by decide) rfl (fun ls hl => ?_)
      refine lv_iconst (v := (-1)) hx hb dX11_soonest_29 (by decide) ?_
      refine lv_istore (lv' := [(6, .int (-1)), (5, .int (-1)), (4, .int 301), (0, .ref (E.2.2 + 0)), (1, .int x1), (2, .int x2), (3, .int x3)]) hx hb dX11_soonest_30 hl (by decide) rfl (fun ls hl => ?_)
      refine lv_iconst (v := 0) hx hb dX11_soonest_32 (by decide) ?_
      refine lv_istore (lv' := [(7, .int 0), (6, .int (-1)), (5, .int (-1)), (4, .int 301), (0, .ref (E.2.2 + 0)), (1, .int x1), (2, .int x2), (3, .int x3)]) hx hb dX11_soonest_33 hl (by decide) rfl (fun ls hl => ?_)
      exact h_X11_soonest_35 l S hr hlk hK N N σ_3 τ_3 x1 x2 x3 301 (-1) (-1) 0 _ _ _ h _ _ _ hw (lv_sub hl [4, 5, 6, 7, 3, 2, 1, 0] rfl)
    · rw [if_pos c_4] at h
      refine lv_iconst (v := (-1)) hx hb dX11_soonest_19 (by decide) ?_
      obtain ⟨rfl, rfl, rfl⟩ := sm_inj h
      exact gx_ri (post := gq_p (-1) σ_3 τ_3) (v := (-1)) S hr hlk hw rfl dX11_soonest_20 ⟨rfl, rfl, rfl⟩
set_option maxHeartbeats 4000000 in
set_option maxRecDepth 100000 in
theorem c_X11_soonest (l : Launch) {E : gE} (N : Nat) (σ : gI) (τ : gJ) (x1 : Int32) (x2 : Int32) (x3 : Int32) {r : Int32} {σ1 : gI} {τ1 : gJ} (h : B_X11_soonest_0 N σ τ x1 x2 x3 = some (r, σ1, τ1)) : gx_Mi l yX11_soonest cX11_soonest 10 (some .int) 6 gx_tb E σ τ [.ref (E.2.2 + 0), .int x1, .int x2, .int x3] (gq_p r σ1 τ1) := by
  refine gx_bi (by decide +kernel) (Nat.le_of_ble_eq_true rfl) ?_
  intro P9 e9 s m9 below meth C9 S hr hlk hK hw ls hl
  have hl : lv_has ls 10 [(0, .ref (E.2.2 + 0)), (1, .int x1), (2, .int x2), (3, .int x3)] := hl
  exact b_X11_soonest_0 l S hr hlk hK N σ τ x1 x2 x3 h hw hl
/-! X11_steer -/
def B_X11_steer_0 (N : Nat) (σ : gI) (τ : gJ) (x1 : Int32) (x2 : Int32) : Option (Int32 × gI × gJ) := bd (B_X6_has_0 N 30 σ τ x1) fun r_1 σ_1 τ_1 => if r_1 = 0 then (some ((-1), σ_1, τ_1)) else (bd (B_X8_isKitchen_0 N σ_1 τ_1 x2) fun r_3 σ_3 τ_3 => if r_3 = 0 then (some ((-1), σ_3, τ_3)) else (bd (B_X9_startFrom_0 N σ_3 τ_3 (1 <<< (x1 &&& 31)) x1) fun _ σ_5 τ_5 => bd (B_X11_fewestTurns_0 N σ_5 τ_5 x2) fun r_6 σ_6 τ_6 => some (r_6, σ_6, τ_6)))
set_option maxHeartbeats 4000000 in
set_option maxRecDepth 100000 in
theorem b_X11_steer_0 (l : Launch) (S : CallFix P9 m9 C9 cX11_steer 3 s av.toArray gx_G RX11) (hr : meth.sig.returnType = (some .int)) (hlk : meth.locks = false) (hK : gx_K E s) (N : Nat) (σ : gI) (τ : gJ) (x1 : Int32) (x2 : Int32) {r : Int32} {σ1 : gI} {τ1 : gJ} (h : B_X11_steer_0 N σ τ x1 x2 = some (r, σ1, τ1)) {H : Heap} {locs : List Loc} {ls : Array Slot} (hw : gx_W gx_tb gx_tb.length E s σ τ H locs) (hl : lv_has ls 3 [(0, .ref (E.2.2 + 0)), (1, .int x1), (2, .int x2)]) : W P9 l e9 (gx_rm 7) s m9 av.toArray below meth C9 H locs 0 0 (gq_Qi below av s E r σ1 τ1) (F0 m9 0 ls []) := by
  have hx := S.1
  have hb := S.2.1
  unfold B_X11_steer_0 at h
  refine lv_aload_n hx hb dX11_steer_0 rfl (lv_at hl 0 rfl) ?_
  refine gx_getr (j := 30) S hK hw t_0 cl_12 7 (by decide) rfl mw_454 rfl dX11_steer_1 ?_
  refine lv_iload_n hx hb dX11_steer_4 rfl (lv_at hl 1 rfl) ?_
  obtain ⟨r_1, σ_1, τ_1, q_1, h⟩ := bd_some h
  refine gx_cVi (As := [.int x1]) (rest := []) S hK gx_ok hw (c_X6_has l (E := E) N 30 is_30 σ τ x1 q_1) cw_X11_172 t_30 cl_7 ⟨Nat.le_of_ble_eq_true rfl, Nat.le_of_ble_eq_true rfl⟩ rfl hl.1 rfl (Nat.le_of_ble_eq_true rfl) ⟨Nat.le_of_ble_eq_true rfl, Nat.le_of_ble_eq_true rfl⟩ dX11_steer_5 (fun r9 σ9 τ9 H locs hp hw => ?_)
  obtain ⟨rfl, rfl, rfl⟩ := hp
  refine lv_if_eq (tgt := 22) hx hb dX11_steer_8 (by decide) (fun c_2 => ?_) (fun c_2 => ?_)
  · rw [if_pos c_2] at h
    refine lv_iconst (v := (-1)) hx hb dX11_steer_22 (by decide) ?_
    obtain ⟨rfl, rfl, rfl⟩ := sm_inj h
    exact gx_ri (post := gq_p (-1) σ_1 τ_1) (v := (-1)) S hr hlk hw rfl dX11_steer_23 ⟨rfl, rfl, rfl⟩
  · rw [if_neg c_2] at h
    refine lv_aload_n hx hb dX11_steer_11 rfl (lv_at hl 0 rfl) ?_
    refine gx_getr (j := 3) S hK hw t_0 cl_12 1 (by decide) rfl mw_448 rfl dX11_steer_12 ?_
    refine lv_iload_n hx hb dX11_steer_15 rfl (lv_at hl 2 rfl) ?_
    obtain ⟨r_3, σ_3, τ_3, q_3, h⟩ := bd_some h
    refine gx_cVi (As := [.int x2]) (rest := []) S hK gx_ok hw (c_X8_isKitchen l (E := E) N σ_1 τ_1 x2 q_3) cw_X11_234 t_3 cl_9 ⟨Nat.le_of_ble_eq_true rfl, Nat.le_of_ble_eq_true rfl⟩ rfl hl.1 rfl (Nat.le_of_ble_eq_true rfl) ⟨Nat.le_of_ble_eq_true rfl, Nat.le_of_ble_eq_true rfl⟩ dX11_steer_16 (fun r9 σ9 τ9 H locs hp hw => ?_)
    obtain ⟨rfl, rfl, rfl⟩ := hp
    refine lv_if_ne (tgt := 24) hx hb dX11_steer_19 (by decide) (fun c_4 => ?_) (fun c_4 => ?_)
    · rw [if_neg c_4] at h
      refine lv_aload_n hx hb dX11_steer_24 rfl (lv_at hl 0 rfl) ?_
      refine gx_getr (j := 160) S hK hw t_0 cl_12 15 (by decide) rfl mw_462 rfl dX11_steer_25 ?_
      refine lv_aload_n hx hb dX11_steer_28 rfl (lv_at hl 0 rfl) ?_
      refine gx_getr (j := 30) S hK hw t_0 cl_12 7 (by decide) rfl mw_454 rfl dX11_steer_29 ?_
      refine lv_iconst (v := 1) hx hb dX11_steer_32 (by decide) ?_
      refine lv_iload_n hx hb dX11_steer_33 rfl (lv_at hl 1 rfl) ?_
      refine lv_ishl hx hb dX11_steer_34 ?_
      refine lv_iload_n hx hb dX11_steer_35 rfl (lv_at hl 1 rfl) ?_
      obtain ⟨u_5, σ_5, τ_5, q_5, h⟩ := bd_some h
      refine gx_cVv (As := [.ref (E.2.2 + 30), .int (1 <<< (x1 &&& 31)), .int x1]) (rest := []) S hK gx_ok hw (c_X9_startFrom l (E := E) N σ_3 τ_3 (1 <<< (x1 &&& 31)) x1 q_5) cw_X11_343 t_160 cl_10 ⟨Nat.le_of_ble_eq_true rfl, Nat.le_of_ble_eq_true rfl⟩ rfl hl.1 rfl (Nat.le_of_ble_eq_true rfl) ⟨Nat.le_of_ble_eq_true rfl, Nat.le_of_ble_eq_true rfl⟩ dX11_steer_36 (fun σ9 τ9 H locs hp hw => ?_)
      obtain ⟨rfl, rfl⟩ := hp
      refine lv_aload_n hx hb dX11_steer_39 rfl (lv_at hl 0 rfl) ?_
      refine lv_iload_n hx hb dX11_steer_40 rfl (lv_at hl 2 rfl) ?_
      obtain ⟨r_6, σ_6, τ_6, q_6, h⟩ := bd_some h
      refine gx_cVi (As := [.int x2]) (rest := []) S hK gx_ok hw (c_X11_fewestTurns l (E := E) N σ_5 τ_5 x2 q_6) cw_X11_347 t_0 cl_12 ⟨Nat.le_of_ble_eq_true rfl, Nat.le_of_ble_eq_true rfl⟩ rfl hl.1 rfl (Nat.le_of_ble_eq_true rfl) ⟨Nat.le_of_ble_eq_true rfl, Nat.le_of_ble_eq_true rfl⟩ dX11_steer_41 (fun r9 σ9 τ9 H locs hp hw => ?_)
      obtain ⟨rfl, rfl, rfl⟩ := hp
      obtain ⟨rfl, rfl, rfl⟩ := sm_inj h
      exact gx_ri (post := gq_p r_6 σ_6 τ_6) (v := r_6) S hr hlk hw rfl dX11_steer_44 ⟨rfl, rfl, rfl⟩
    · rw [if_pos c_4] at h
      refine lv_iconst (v := (-1)) hx hb dX11_steer_22 (by decide) ?_
      obtain ⟨rfl, rfl, rfl⟩ := sm_inj h
      exact gx_ri (post := gq_p (-1) σ_3 τ_3) (v := (-1)) S hr hlk hw rfl dX11_steer_23 ⟨rfl, rfl, rfl⟩
set_option maxHeartbeats 4000000 in
set_option maxRecDepth 100000 in
theorem c_X11_steer (l : Launch) {E : gE} (N : Nat) (σ : gI) (τ : gJ) (x1 : Int32) (x2 : Int32) {r : Int32} {σ1 : gI} {τ1 : gJ} (h : B_X11_steer_0 N σ τ x1 x2 = some (r, σ1, τ1)) : gx_Mi l yX11_steer cX11_steer 3 (some .int) 7 gx_tb E σ τ [.ref (E.2.2 + 0), .int x1, .int x2] (gq_p r σ1 τ1) := by
  refine gx_bi (by decide +kernel) (Nat.le_of_ble_eq_true rfl) ?_
  intro P9 e9 s m9 below meth C9 S hr hlk hK hw ls hl
  have hl : lv_has ls 3 [(0, .ref (E.2.2 + 0)), (1, .int x1), (2, .int x2)] := hl
  exact b_X11_steer_0 l S hr hlk hK N σ τ x1 x2 h hw hl
/-! X8_clear -/
def C_X8_clear_22 (N : Nat) (rec_22 : gI → gJ → Int32 → Option (Unit × gI × gJ)) (σ : gI) (τ : gJ) (x1 : Int32) : Option (Unit × gI × gJ) := if 12 ≤ x1 then (some ((), σ, τ)) else (ck x1 12 fun j_2 => nm (up2 σ 14 j_2 (-1)) fun σ_3 => nm (x1 + 1) fun v_4 => rec_22 σ_3 τ v_4)
def H_X8_clear_22 (N : Nat) : Nat → gI → gJ → Int32 → Option (Unit × gI × gJ) := itn (fun rec_22 => C_X8_clear_22 N rec_22) (fun _ _ _ => none)
def B_X8_clear_0 (N : Nat) (σ : gI) (τ : gJ) : Option (Unit × gI × gJ) := nm (up2 σ 9 6 0) fun σ_1 => nm (up2 σ_1 9 7 0) fun σ_2 => nm (up2 σ_2 9 5 0) fun σ_3 => nm (up2 σ_3 9 8 1) fun σ_4 => H_X8_clear_22 N N σ_4 τ 0
set_option maxHeartbeats 4000000 in
set_option maxRecDepth 100000 in
theorem k_X8_clear_22 (l : Launch) (S : CallFix P9 m9 C9 cX8_clear 2 s av.toArray gx_G RX8) (hr : meth.sig.returnType = none) (hlk : meth.locks = false) (hK : gx_K E s) (N : Nat) (rec_22 : gI → gJ → Int32 → Option (Unit × gI × gJ)) (hrec_22 : ∀ (σ : gI) (τ : gJ) (x1 : Int32) (r : Unit) (σ1 : gI) (τ1 : gJ) (H : Heap) (locs : List Loc) (ls : Array Slot), rec_22 σ τ x1 = some (r, σ1, τ1) → gx_W gx_tb gx_tb.length E s σ τ H locs → lv_has ls 2 [(0, .ref (E.2.2 + 9)), (1, .int x1)] → W P9 l e9 (gx_rm 0) s m9 av.toArray below meth C9 H locs 0 0 (gq_Qv below av s E σ1 τ1) (F0 m9 22 ls [])) (σ : gI) (τ : gJ) (x1 : Int32) {r : Unit} {σ1 : gI} {τ1 : gJ} (h : C_X8_clear_22 N rec_22 σ τ x1 = some (r, σ1, τ1)) {H : Heap} {locs : List Loc} {ls : Array Slot} (hw : gx_W gx_tb gx_tb.length E s σ τ H locs) (hl : lv_has ls 2 [(0, .ref (E.2.2 + 9)), (1, .int x1)]) : W P9 l e9 (gx_rm 0) s m9 av.toArray below meth C9 H locs 0 0 (gq_Qv below av s E σ1 τ1) (F0 m9 22 ls []) := by
  have hx := S.1
  have hb := S.2.1
  unfold C_X8_clear_22 at h
  refine lv_iload_n hx hb dX8_clear_22 rfl (lv_at hl 1 rfl) ?_
  refine lv_bipush (v := 12) hx hb dX8_clear_23 (by decide) ?_
  refine lv_icmp_ge (tgt := 41) hx hb dX8_clear_25 (by decide) (fun c_1 => ?_) (fun c_1 => ?_)
  · rw [if_pos c_1] at h
    obtain ⟨-, rfl, rfl⟩ := sm_inj h
    exact gx_rv (post := gq_v σ τ) S hr hlk hw dX8_clear_41 ⟨rfl, rfl⟩
  · rw [if_neg c_1] at h
    refine lv_aload_n hx hb dX8_clear_28 rfl (lv_at hl 0 rfl) ?_
    refine gx_getr (j := 14) S hK hw t_9 cl_9 4 (by decide) rfl mw_152 rfl dX8_clear_29 ?_
    refine lv_iload_n hx hb dX8_clear_32 rfl (lv_at hl 1 rfl) ?_
    refine lv_iconst (v := (-1)) hx hb dX8_clear_33 (by decide) ?_
    obtain ⟨j_2, hj_2, hi_2, h⟩ := ck_some h
    refine gx_iast S hK gx_ok hw t_14 j_2 hj_2 hi_2 dX8_clear_34 (fun H locs hw => ?_)
    obtain ⟨σ_3, e_3, h⟩ := nm_some h
    rw [← e_3] at hw
    refine lv_iinc (v := x1 + 1) (lv' := [(1, .int (x1 + 1)), (0, .ref (E.2.2 + 9))]) hx hb dX8_clear_35 hl (k := 1) rfl rfl (by decide) rfl (fun ls hl => ?_)
    obtain ⟨v_4, e_4, h⟩ := nm_some h
    have hl : lv_has ls 2 [(1, .int v_4), (0, .ref (E.2.2 + 9))] := by rw [e_4]; exact hl
    refine lv_goto (tgt := 22) hx hb dX8_clear_38 (by decide) ?_
    exact hrec_22 σ_3 τ v_4 _ _ _ _ _ _ h hw (lv_sub hl [1, 0] rfl)
set_option maxHeartbeats 4000000 in
set_option maxRecDepth 100000 in
theorem h_X8_clear_22 (l : Launch) (S : CallFix P9 m9 C9 cX8_clear 2 s av.toArray gx_G RX8) (hr : meth.sig.returnType = none) (hlk : meth.locks = false) (hK : gx_K E s) (N : Nat) : ∀ (n : Nat) (σ : gI) (τ : gJ) (x1 : Int32) (r : Unit) (σ1 : gI) (τ1 : gJ), H_X8_clear_22 N n σ τ x1 = some (r, σ1, τ1) → ∀ (H : Heap) (locs : List Loc) (ls : Array Slot), gx_W gx_tb gx_tb.length E s σ τ H locs → lv_has ls 2 [(0, .ref (E.2.2 + 9)), (1, .int x1)] → W P9 l e9 (gx_rm 0) s m9 av.toArray below meth C9 H locs 0 0 (gq_Qv below av s E σ1 τ1) (F0 m9 22 ls []) := by
  intro n
  induction n with
  | zero => intro σ τ x1 r σ1 τ1 h; cases h
  | succ n ih =>
    intro σ τ x1 r σ1 τ1 h H locs ls hw hl
    exact k_X8_clear_22 l S hr hlk hK N (H_X8_clear_22 N n) (fun σ τ x1 r σ1 τ1 H locs ls h hw hl => ih σ τ x1 r σ1 τ1 h H locs ls hw hl) σ τ x1 h hw hl
set_option maxHeartbeats 4000000 in
set_option maxRecDepth 100000 in
theorem b_X8_clear_0 (l : Launch) (S : CallFix P9 m9 C9 cX8_clear 2 s av.toArray gx_G RX8) (hr : meth.sig.returnType = none) (hlk : meth.locks = false) (hK : gx_K E s) (N : Nat) (σ : gI) (τ : gJ) {r : Unit} {σ1 : gI} {τ1 : gJ} (h : B_X8_clear_0 N σ τ = some (r, σ1, τ1)) {H : Heap} {locs : List Loc} {ls : Array Slot} (hw : gx_W gx_tb gx_tb.length E s σ τ H locs) (hl : lv_has ls 2 [(0, .ref (E.2.2 + 9))]) : W P9 l e9 (gx_rm 0) s m9 av.toArray below meth C9 H locs 0 0 (gq_Qv below av s E σ1 τ1) (F0 m9 0 ls []) := by
  have hx := S.1
  have hb := S.2.1
  unfold B_X8_clear_0 at h
  refine lv_aload_n hx hb dX8_clear_0 rfl (lv_at hl 0 rfl) ?_
  refine lv_iconst (v := 0) hx hb dX8_clear_1 (by decide) ?_
  refine gx_put S hK gx_ok hw t_9 cl_9 6 (by decide) rfl mw_154 rfl rfl (ty := .int) (v := 0) (by decide +kernel) rfl rfl dX8_clear_2 (fun H locs hw => ?_)
  obtain ⟨σ_1, e_1, h⟩ := nm_some h
  rw [← e_1] at hw
  refine lv_aload_n hx hb dX8_clear_5 rfl (lv_at hl 0 rfl) ?_
  refine lv_iconst (v := 0) hx hb dX8_clear_6 (by decide) ?_
  refine gx_put S hK gx_ok hw t_9 cl_9 7 (by decide) rfl mw_156 rfl rfl (ty := .int) (v := 0) (by decide +kernel) rfl rfl dX8_clear_7 (fun H locs hw => ?_)
  obtain ⟨σ_2, e_2, h⟩ := nm_some h
  rw [← e_2] at hw
  refine lv_aload_n hx hb dX8_clear_10 rfl (lv_at hl 0 rfl) ?_
  refine lv_iconst (v := 0) hx hb dX8_clear_11 (by decide) ?_
  refine gx_put S hK gx_ok hw t_9 cl_9 5 (by decide) rfl mw_153 rfl rfl (ty := .int) (v := 0) (by decide +kernel) rfl rfl dX8_clear_12 (fun H locs hw => ?_)
  obtain ⟨σ_3, e_3, h⟩ := nm_some h
  rw [← e_3] at hw
  refine lv_aload_n hx hb dX8_clear_15 rfl (lv_at hl 0 rfl) ?_
  refine lv_iconst (v := 1) hx hb dX8_clear_16 (by decide) ?_
  refine gx_put S hK gx_ok hw t_9 cl_9 8 (by decide) rfl mw_159 rfl rfl (ty := .int) (v := 1) (by decide +kernel) rfl rfl dX8_clear_17 (fun H locs hw => ?_)
  obtain ⟨σ_4, e_4, h⟩ := nm_some h
  rw [← e_4] at hw
  refine lv_iconst (v := 0) hx hb dX8_clear_20 (by decide) ?_
  refine lv_istore_n (lv' := [(1, .int 0), (0, .ref (E.2.2 + 9))]) hx hb dX8_clear_21 rfl hl (by decide) rfl (fun ls hl => ?_)
  exact h_X8_clear_22 l S hr hlk hK N N σ_4 τ 0 _ _ _ h _ _ _ hw (lv_sub hl [1, 0] rfl)
set_option maxHeartbeats 4000000 in
set_option maxRecDepth 100000 in
theorem c_X8_clear (l : Launch) {E : gE} (N : Nat) (σ : gI) (τ : gJ) {r : Unit} {σ1 : gI} {τ1 : gJ} (h : B_X8_clear_0 N σ τ = some (r, σ1, τ1)) : gx_Mv l yX8_clear cX8_clear 2 none 0 gx_tb E σ τ [.ref (E.2.2 + 9)] (gq_v σ1 τ1) := by
  refine gx_bv (by decide +kernel) (Nat.le_of_ble_eq_true rfl) ?_
  intro P9 e9 s m9 below meth C9 S hr hlk hK hw ls hl
  have hl : lv_has ls 2 [(0, .ref (E.2.2 + 9))] := hl
  exact b_X8_clear_0 l S hr hlk hK N σ τ h hw hl
/-! X8_addPlace -/
def B_X8_addPlace_88 (N : Nat) (σ : gI) (τ : gJ) (x1 : Int32) : Option (Unit × gI × gJ) := if x1 = 6 then (nm (up2 σ 9 5 ((σ 9 5) ||| (1 <<< ((σ 9 6) &&& 31)))) fun σ_3 => nm (up2 σ_3 9 6 ((σ_3 9 6) + 1)) fun σ_4 => some ((), σ_4, τ)) else (nm (up2 σ 9 6 ((σ 9 6) + 1)) fun σ_2 => some ((), σ_2, τ))
def B_X8_addPlace_0 (N : Nat) (σ : gI) (τ : gJ) (x1 : Int32) (x2 : Int32) (x3 : Int32) (x4 : Int32) : Option (Unit × gI × gJ) := if σ 9 6 < 0 then (some ((), σ, τ)) else (if σ 9 6 < 12 then (ck (σ 9 6) 12 fun j_3 => nm (up2 σ 10 j_3 x1) fun σ_4 => ck (σ_4 9 6) 12 fun j_5 => nm (up2 σ_4 11 j_5 x2) fun σ_6 => ck (σ_6 9 6) 12 fun j_7 => nm (up2 σ_6 12 j_7 x3) fun σ_8 => ck (σ_8 9 6) 12 fun j_9 => nm (up2 σ_8 13 j_9 x4) fun σ_10 => if x1 = 1 then (nm (up2 σ_10 9 7 ((σ_10 9 7) ||| (1 <<< ((σ_10 9 6) &&& 31)))) fun σ_12 => nm (up2 σ_12 9 8 ((σ_12 9 8) * 2)) fun σ_13 => B_X8_addPlace_88 N σ_13 τ x1) else (B_X8_addPlace_88 N σ_10 τ x1)) else (some ((), σ, τ)))
set_option maxHeartbeats 4000000 in
set_option maxRecDepth 100000 in
theorem b_X8_addPlace_88 (l : Launch) (S : CallFix P9 m9 C9 cX8_addPlace 5 s av.toArray gx_G RX8) (hr : meth.sig.returnType = none) (hlk : meth.locks = false) (hK : gx_K E s) (N : Nat) (σ : gI) (τ : gJ) (x1 : Int32) {r : Unit} {σ1 : gI} {τ1 : gJ} (h : B_X8_addPlace_88 N σ τ x1 = some (r, σ1, τ1)) {H : Heap} {locs : List Loc} {ls : Array Slot} (hw : gx_W gx_tb gx_tb.length E s σ τ H locs) (hl : lv_has ls 5 [(0, .ref (E.2.2 + 9)), (1, .int x1)]) : W P9 l e9 (gx_rm 0) s m9 av.toArray below meth C9 H locs 0 0 (gq_Qv below av s E σ1 τ1) (F0 m9 88 ls []) := by
  have hx := S.1
  have hb := S.2.1
  unfold B_X8_addPlace_88 at h
  refine lv_iload_n hx hb dX8_addPlace_88 rfl (lv_at hl 1 rfl) ?_
  refine lv_bipush (v := 6) hx hb dX8_addPlace_89 (by decide) ?_
  refine lv_icmp_ne (tgt := 109) hx hb dX8_addPlace_91 (by decide) (fun c_1 => ?_) (fun c_1 => ?_)
  · rw [if_neg c_1] at h
    refine lv_aload_n hx hb dX8_addPlace_109 rfl (lv_at hl 0 rfl) ?_
    refine lv_dup hx hb dX8_addPlace_110 rfl ?_
    refine gx_get S hK hw t_9 cl_9 6 (by decide) rfl mw_154 rfl dX8_addPlace_111 ?_
    refine lv_iconst (v := 1) hx hb dX8_addPlace_114 (by decide) ?_
    refine lv_iadd hx hb dX8_addPlace_115 ?_
    refine gx_put S hK gx_ok hw t_9 cl_9 6 (by decide) rfl mw_154 rfl rfl (ty := .int) (v := (σ 9 6) + 1) (by decide +kernel) rfl rfl dX8_addPlace_116 (fun H locs hw => ?_)
    obtain ⟨σ_2, e_2, h⟩ := nm_some h
    rw [← e_2] at hw
    obtain ⟨-, rfl, rfl⟩ := sm_inj h
    exact gx_rv (post := gq_v σ_2 τ) S hr hlk hw dX8_addPlace_119 ⟨rfl, rfl⟩
  · rw [if_pos c_1] at h
    refine lv_aload_n hx hb dX8_addPlace_94 rfl (lv_at hl 0 rfl) ?_
    refine lv_dup hx hb dX8_addPlace_95 rfl ?_
    refine gx_get S hK hw t_9 cl_9 5 (by decide) rfl mw_153 rfl dX8_addPlace_96 ?_
    refine lv_iconst (v := 1) hx hb dX8_addPlace_99 (by decide) ?_
    refine lv_aload_n hx hb dX8_addPlace_100 rfl (lv_at hl 0 rfl) ?_
    refine gx_get S hK hw t_9 cl_9 6 (by decide) rfl mw_154 rfl dX8_addPlace_101 ?_
    refine lv_ishl hx hb dX8_addPlace_104 ?_
    refine lv_ior hx hb dX8_addPlace_105 ?_
    refine gx_put S hK gx_ok hw t_9 cl_9 5 (by decide) rfl mw_153 rfl rfl (ty := .int) (v := (σ 9 5) ||| (1 <<< ((σ 9 6) &&& 31))) (by decide +kernel) rfl rfl dX8_addPlace_106 (fun H locs hw => ?_)
    obtain ⟨σ_3, e_3, h⟩ := nm_some h
    rw [← e_3] at hw
    refine lv_aload_n hx hb dX8_addPlace_109 rfl (lv_at hl 0 rfl) ?_
    refine lv_dup hx hb dX8_addPlace_110 rfl ?_
    refine gx_get S hK hw t_9 cl_9 6 (by decide) rfl mw_154 rfl dX8_addPlace_111 ?_
    refine lv_iconst (v := 1) hx hb dX8_addPlace_114 (by decide) ?_
    refine lv_iadd hx hb dX8_addPlace_115 ?_
    refine gx_put S hK gx_ok hw t_9 cl_9 6 (by decide) rfl mw_154 rfl rfl (ty := .int) (v := (σ_3 9 6) + 1) (by decide +kernel) rfl rfl dX8_addPlace_116 (fun H locs hw => ?_)
    obtain ⟨σ_4, e_4, h⟩ := nm_some h
    rw [← e_4] at hw
    obtain ⟨-, rfl, rfl⟩ := sm_inj h
    exact gx_rv (post := gq_v σ_4 τ) S hr hlk hw dX8_addPlace_119 ⟨rfl, rfl⟩
set_option maxHeartbeats 4000000 in
set_option maxRecDepth 100000 in
theorem b_X8_addPlace_0 (l : Launch) (S : CallFix P9 m9 C9 cX8_addPlace 5 s av.toArray gx_G RX8) (hr : meth.sig.returnType = none) (hlk : meth.locks = false) (hK : gx_K E s) (N : Nat) (σ : gI) (τ : gJ) (x1 : Int32) (x2 : Int32) (x3 : Int32) (x4 : Int32) {r : Unit} {σ1 : gI} {τ1 : gJ} (h : B_X8_addPlace_0 N σ τ x1 x2 x3 x4 = some (r, σ1, τ1)) {H : Heap} {locs : List Loc} {ls : Array Slot} (hw : gx_W gx_tb gx_tb.length E s σ τ H locs) (hl : lv_has ls 5 [(0, .ref (E.2.2 + 9)), (1, .int x1), (2, .int x2), (3, .int x3), (4, .int x4)]) : W P9 l e9 (gx_rm 0) s m9 av.toArray below meth C9 H locs 0 0 (gq_Qv below av s E σ1 τ1) (F0 m9 0 ls []) := by
  have hx := S.1
  have hb := S.2.1
  unfold B_X8_addPlace_0 at h
  refine lv_aload_n hx hb dX8_addPlace_0 rfl (lv_at hl 0 rfl) ?_
  refine gx_get S hK hw t_9 cl_9 6 (by decide) rfl mw_154 rfl dX8_addPlace_1 ?_
  refine lv_if_lt (tgt := 16) hx hb dX8_addPlace_4 (by decide) (fun c_1 => ?_) (fun c_1 => ?_)
  · rw [if_pos c_1] at h
    obtain ⟨-, rfl, rfl⟩ := sm_inj h
    exact gx_rv (post := gq_v σ τ) S hr hlk hw dX8_addPlace_16 ⟨rfl, rfl⟩
  · rw [if_neg c_1] at h
    refine lv_aload_n hx hb dX8_addPlace_7 rfl (lv_at hl 0 rfl) ?_
    refine gx_get S hK hw t_9 cl_9 6 (by decide) rfl mw_154 rfl dX8_addPlace_8 ?_
    refine lv_bipush (v := 12) hx hb dX8_addPlace_11 (by decide) ?_
    refine lv_icmp_lt (tgt := 17) hx hb dX8_addPlace_13 (by decide) (fun c_2 => ?_) (fun c_2 => ?_)
    · rw [if_pos c_2] at h
      refine lv_aload_n hx hb dX8_addPlace_17 rfl (lv_at hl 0 rfl) ?_
      refine gx_getr (j := 10) S hK hw t_9 cl_9 0 (by decide) rfl mw_148 rfl dX8_addPlace_18 ?_
      refine lv_aload_n hx hb dX8_addPlace_21 rfl (lv_at hl 0 rfl) ?_
      refine gx_get S hK hw t_9 cl_9 6 (by decide) rfl mw_154 rfl dX8_addPlace_22 ?_
      refine lv_iload_n hx hb dX8_addPlace_25 rfl (lv_at hl 1 rfl) ?_
      obtain ⟨j_3, hj_3, hi_3, h⟩ := ck_some h
      refine gx_iast S hK gx_ok hw t_10 j_3 hj_3 hi_3 dX8_addPlace_26 (fun H locs hw => ?_)
      obtain ⟨σ_4, e_4, h⟩ := nm_some h
      rw [← e_4] at hw
      refine lv_aload_n hx hb dX8_addPlace_27 rfl (lv_at hl 0 rfl) ?_
      refine gx_getr (j := 11) S hK hw t_9 cl_9 1 (by decide) rfl mw_149 rfl dX8_addPlace_28 ?_
      refine lv_aload_n hx hb dX8_addPlace_31 rfl (lv_at hl 0 rfl) ?_
      refine gx_get S hK hw t_9 cl_9 6 (by decide) rfl mw_154 rfl dX8_addPlace_32 ?_
      refine lv_iload_n hx hb dX8_addPlace_35 rfl (lv_at hl 2 rfl) ?_
      obtain ⟨j_5, hj_5, hi_5, h⟩ := ck_some h
      refine gx_iast S hK gx_ok hw t_11 j_5 hj_5 hi_5 dX8_addPlace_36 (fun H locs hw => ?_)
      obtain ⟨σ_6, e_6, h⟩ := nm_some h
      rw [← e_6] at hw
      refine lv_aload_n hx hb dX8_addPlace_37 rfl (lv_at hl 0 rfl) ?_
      refine gx_getr (j := 12) S hK hw t_9 cl_9 2 (by decide) rfl mw_150 rfl dX8_addPlace_38 ?_
      refine lv_aload_n hx hb dX8_addPlace_41 rfl (lv_at hl 0 rfl) ?_
      refine gx_get S hK hw t_9 cl_9 6 (by decide) rfl mw_154 rfl dX8_addPlace_42 ?_
      refine lv_iload_n hx hb dX8_addPlace_45 rfl (lv_at hl 3 rfl) ?_
      obtain ⟨j_7, hj_7, hi_7, h⟩ := ck_some h
      refine gx_iast S hK gx_ok hw t_12 j_7 hj_7 hi_7 dX8_addPlace_46 (fun H locs hw => ?_)
      obtain ⟨σ_8, e_8, h⟩ := nm_some h
      rw [← e_8] at hw
      refine lv_aload_n hx hb dX8_addPlace_47 rfl (lv_at hl 0 rfl) ?_
      refine gx_getr (j := 13) S hK hw t_9 cl_9 3 (by decide) rfl mw_151 rfl dX8_addPlace_48 ?_
      refine lv_aload_n hx hb dX8_addPlace_51 rfl (lv_at hl 0 rfl) ?_
      refine gx_get S hK hw t_9 cl_9 6 (by decide) rfl mw_154 rfl dX8_addPlace_52 ?_
      refine lv_iload hx hb dX8_addPlace_55 (lv_at hl 4 rfl) ?_
      obtain ⟨j_9, hj_9, hi_9, h⟩ := ck_some h
      refine gx_iast S hK gx_ok hw t_13 j_9 hj_9 hi_9 dX8_addPlace_57 (fun H locs hw => ?_)
      obtain ⟨σ_10, e_10, h⟩ := nm_some h
      rw [← e_10] at hw
      refine lv_iload_n hx hb dX8_addPlace_58 rfl (lv_at hl 1 rfl) ?_
      refine lv_iconst (v := 1) hx hb dX8_addPlace_59 (by decide) ?_
      refine lv_icmp_ne (tgt := 88) hx hb dX8_addPlace_60 (by decide) (fun c_11 => ?_) (fun c_11 => ?_)
      · rw [if_neg c_11] at h
        exact b_X8_addPlace_88 l S hr hlk hK N σ_10 τ x1 h hw (lv_sub hl [0, 1] rfl)
      · rw [if_pos c_11] at h
        refine lv_aload_n hx hb dX8_addPlace_63 rfl (lv_at hl 0 rfl) ?_
        refine lv_dup hx hb dX8_addPlace_64 rfl ?_
        refine gx_get S hK hw t_9 cl_9 7 (by decide) rfl mw_156 rfl dX8_addPlace_65 ?_
        refine lv_iconst (v := 1) hx hb dX8_addPlace_68 (by decide) ?_
        refine lv_aload_n hx hb dX8_addPlace_69 rfl (lv_at hl 0 rfl) ?_
        refine gx_get S hK hw t_9 cl_9 6 (by decide) rfl mw_154 rfl dX8_addPlace_70 ?_
        refine lv_ishl hx hb dX8_addPlace_73 ?_
        refine lv_ior hx hb dX8_addPlace_74 ?_
        refine gx_put S hK gx_ok hw t_9 cl_9 7 (by decide) rfl mw_156 rfl rfl (ty := .int) (v := (σ_10 9 7) ||| (1 <<< ((σ_10 9 6) &&& 31))) (by decide +kernel) rfl rfl dX8_addPlace_75 (fun H locs hw => ?_)
        obtain ⟨σ_12, e_12, h⟩ := nm_some h
        rw [← e_12] at hw
        refine lv_aload_n hx hb dX8_addPlace_78 rfl (lv_at hl 0 rfl) ?_
        refine lv_dup hx hb dX8_addPlace_79 rfl ?_
        refine gx_get S hK hw t_9 cl_9 8 (by decide) rfl mw_159 rfl dX8_addPlace_80 ?_
        refine lv_iconst (v := 2) hx hb dX8_addPlace_83 (by decide) ?_
        refine lv_imul hx hb dX8_addPlace_84 ?_
        refine gx_put S hK gx_ok hw t_9 cl_9 8 (by decide) rfl mw_159 rfl rfl (ty := .int) (v := (σ_12 9 8) * 2) (by decide +kernel) rfl rfl dX8_addPlace_85 (fun H locs hw => ?_)
        obtain ⟨σ_13, e_13, h⟩ := nm_some h
        rw [← e_13] at hw
        exact b_X8_addPlace_88 l S hr hlk hK N σ_13 τ x1 h hw (lv_sub hl [0, 1] rfl)
    · rw [if_neg c_2] at h
      obtain ⟨-, rfl, rfl⟩ := sm_inj h
      exact gx_rv (post := gq_v σ τ) S hr hlk hw dX8_addPlace_16 ⟨rfl, rfl⟩
set_option maxHeartbeats 4000000 in
set_option maxRecDepth 100000 in
theorem c_X8_addPlace (l : Launch) {E : gE} (N : Nat) (σ : gI) (τ : gJ) (x1 : Int32) (x2 : Int32) (x3 : Int32) (x4 : Int32) {r : Unit} {σ1 : gI} {τ1 : gJ} (h : B_X8_addPlace_0 N σ τ x1 x2 x3 x4 = some (r, σ1, τ1)) : gx_Mv l yX8_addPlace cX8_addPlace 5 none 0 gx_tb E σ τ [.ref (E.2.2 + 9), .int x1, .int x2, .int x3, .int x4] (gq_v σ1 τ1) := by
  refine gx_bv (by decide +kernel) (Nat.le_of_ble_eq_true rfl) ?_
  intro P9 e9 s m9 below meth C9 S hr hlk hK hw ls hl
  have hl : lv_has ls 5 [(0, .ref (E.2.2 + 9)), (1, .int x1), (2, .int x2), (3, .int x3), (4, .int x4)] := hl
  exact b_X8_addPlace_0 l S hr hlk hK N σ τ x1 x2 x3 x4 h hw hl
/-! X8_use -/
def B_X8_use_0 (N : Nat) (σ : gI) (τ : gJ) (x1 : Int32) (x2 : Int32) : Option (Unit × gI × gJ) := if x1 < 0 then (some ((), σ, τ)) else (if 12 ≤ x1 then (some ((), σ, τ)) else (ck x1 12 fun j_3 => if σ 14 j_3 = (-1) then (nm (up2 σ 14 j_3 x2) fun σ_5 => some ((), σ_5, τ)) else (some ((), σ, τ))))
set_option maxHeartbeats 4000000 in
set_option maxRecDepth 100000 in
theorem b_X8_use_0 (l : Launch) (S : CallFix P9 m9 C9 cX8_use 3 s av.toArray gx_G RX8) (hr : meth.sig.returnType = none) (hlk : meth.locks = false) (hK : gx_K E s) (N : Nat) (σ : gI) (τ : gJ) (x1 : Int32) (x2 : Int32) {r : Unit} {σ1 : gI} {τ1 : gJ} (h : B_X8_use_0 N σ τ x1 x2 = some (r, σ1, τ1)) {H : Heap} {locs : List Loc} {ls : Array Slot} (hw : gx_W gx_tb gx_tb.length E s σ τ H locs) (hl : lv_has ls 3 [(0, .ref (E.2.2 + 9)), (1, .int x1), (2, .int x2)]) : W P9 l e9 (gx_rm 0) s m9 av.toArray below meth C9 H locs 0 0 (gq_Qv below av s E σ1 τ1) (F0 m9 0 ls []) := by
  have hx := S.1
  have hb := S.2.1
  unfold B_X8_use_0 at h
  refine lv_iload_n hx hb dX8_use_0 rfl (lv_at hl 1 rfl) ?_
  refine lv_if_lt (tgt := 27) hx hb dX8_use_1 (by decide) (fun c_1 => ?_) (fun c_1 => ?_)
  · rw [if_pos c_1] at h
    obtain ⟨-, rfl, rfl⟩ := sm_inj h
    exact gx_rv (post := gq_v σ τ) S hr hlk hw dX8_use_27 ⟨rfl, rfl⟩
  · rw [if_neg c_1] at h
    refine lv_iload_n hx hb dX8_use_4 rfl (lv_at hl 1 rfl) ?_
    refine lv_bipush (v := 12) hx hb dX8_use_5 (by decide) ?_
    refine lv_icmp_ge (tgt := 27) hx hb dX8_use_7 (by decide) (fun c_2 => ?_) (fun c_2 => ?_)
    · rw [if_pos c_2] at h
      obtain ⟨-, rfl, rfl⟩ := sm_inj h
      exact gx_rv (post := gq_v σ τ) S hr hlk hw dX8_use_27 ⟨rfl, rfl⟩
    · rw [if_neg c_2] at h
      refine lv_aload_n hx hb dX8_use_10 rfl (lv_at hl 0 rfl) ?_
      refine gx_getr (j := 14) S hK hw t_9 cl_9 4 (by decide) rfl mw_152 rfl dX8_use_11 ?_
      refine lv_iload_n hx hb dX8_use_14 rfl (lv_at hl 1 rfl) ?_
      obtain ⟨j_3, hj_3, hi_3, h⟩ := ck_some h
      refine gx_iald S hK hw t_14 j_3 hj_3 hi_3 dX8_use_15 ?_
      refine lv_iconst (v := (-1)) hx hb dX8_use_16 (by decide) ?_
      refine lv_icmp_ne (tgt := 27) hx hb dX8_use_17 (by decide) (fun c_4 => ?_) (fun c_4 => ?_)
      · rw [if_neg c_4] at h
        obtain ⟨-, rfl, rfl⟩ := sm_inj h
        exact gx_rv (post := gq_v σ τ) S hr hlk hw dX8_use_27 ⟨rfl, rfl⟩
      · rw [if_pos c_4] at h
        refine lv_aload_n hx hb dX8_use_20 rfl (lv_at hl 0 rfl) ?_
        refine gx_getr (j := 14) S hK hw t_9 cl_9 4 (by decide) rfl mw_152 rfl dX8_use_21 ?_
        refine lv_iload_n hx hb dX8_use_24 rfl (lv_at hl 1 rfl) ?_
        refine lv_iload_n hx hb dX8_use_25 rfl (lv_at hl 2 rfl) ?_
        refine gx_iast S hK gx_ok hw t_14 j_3 hj_3 hi_3 dX8_use_26 (fun H locs hw => ?_)
        obtain ⟨σ_5, e_5, h⟩ := nm_some h
        rw [← e_5] at hw
        obtain ⟨-, rfl, rfl⟩ := sm_inj h
        exact gx_rv (post := gq_v σ_5 τ) S hr hlk hw dX8_use_27 ⟨rfl, rfl⟩
set_option maxHeartbeats 4000000 in
set_option maxRecDepth 100000 in
theorem c_X8_use (l : Launch) {E : gE} (N : Nat) (σ : gI) (τ : gJ) (x1 : Int32) (x2 : Int32) {r : Unit} {σ1 : gI} {τ1 : gJ} (h : B_X8_use_0 N σ τ x1 x2 = some (r, σ1, τ1)) : gx_Mv l yX8_use cX8_use 3 none 0 gx_tb E σ τ [.ref (E.2.2 + 9), .int x1, .int x2] (gq_v σ1 τ1) := by
  refine gx_bv (by decide +kernel) (Nat.le_of_ble_eq_true rfl) ?_
  intro P9 e9 s m9 below meth C9 S hr hlk hK hw ls hl
  have hl : lv_has ls 3 [(0, .ref (E.2.2 + 9)), (1, .int x1), (2, .int x2)] := hl
  exact b_X8_use_0 l S hr hlk hK N σ τ x1 x2 h hw hl
/-! X8_readFork -/
def B_X8_readFork_0 (N : Nat) (σ : gI) (τ : gJ) (x2 : Int32) (x3 : Int32) : Option (Int32 × gI × gJ) := bd (B_X7_letter_0 N σ τ x3) fun r_1 σ_1 τ_1 => if 0 ≤ r_1 then (bd (B_X8_use_0 N σ_1 τ_1 r_1 x3) fun _ σ_3 τ_3 => bd (B_X8_addPlace_0 N σ_3 τ_3 1 x2 r_1 0) fun _ σ_4 τ_4 => some (x3 + 1, σ_4, τ_4)) else (some ((-1) - x3, σ_1, τ_1))
set_option maxHeartbeats 4000000 in
set_option maxRecDepth 100000 in
theorem b_X8_readFork_0 (l : Launch) (S : CallFix P9 m9 C9 cX8_readFork 5 s av.toArray gx_G RX8) (hr : meth.sig.returnType = (some .int)) (hlk : meth.locks = false) (hK : gx_K E s) (N : Nat) (σ : gI) (τ : gJ) (x2 : Int32) (x3 : Int32) {r : Int32} {σ1 : gI} {τ1 : gJ} (h : B_X8_readFork_0 N σ τ x2 x3 = some (r, σ1, τ1)) {H : Heap} {locs : List Loc} {ls : Array Slot} (hw : gx_W gx_tb gx_tb.length E s σ τ H locs) (hl : lv_has ls 5 [(0, .ref (E.2.2 + 9)), (1, .ref (E.2.2 + 1)), (2, .int x2), (3, .int x3)]) : W P9 l e9 (gx_rm 2) s m9 av.toArray below meth C9 H locs 0 0 (gq_Qi below av s E r σ1 τ1) (F0 m9 0 ls []) := by
  have hx := S.1
  have hb := S.2.1
  unfold B_X8_readFork_0 at h
  refine lv_aload_n hx hb dX8_readFork_0 rfl (lv_at hl 1 rfl) ?_
  refine lv_iload_n hx hb dX8_readFork_1 rfl (lv_at hl 3 rfl) ?_
  obtain ⟨r_1, σ_1, τ_1, q_1, h⟩ := bd_some h
  refine gx_cVi (As := [.int x3]) (rest := []) S hK gx_ok hw (c_X7_letter l (E := E) N σ τ x3 q_1) cw_X8_75 t_1 cl_8 ⟨Nat.le_of_ble_eq_true rfl, Nat.le_of_ble_eq_true rfl⟩ rfl hl.1 rfl (Nat.le_of_ble_eq_true rfl) ⟨Nat.le_of_ble_eq_true rfl, Nat.le_of_ble_eq_true rfl⟩ dX8_readFork_2 (fun r9 σ9 τ9 H locs hp hw => ?_)
  obtain ⟨rfl, rfl, rfl⟩ := hp
  refine lv_istore (lv' := [(4, .int r_1), (0, .ref (E.2.2 + 9)), (1, .ref (E.2.2 + 1)), (2, .int x2), (3, .int x3)]) hx hb dX8_readFork_5 hl (by decide) rfl (fun ls hl => ?_)
  refine lv_iload hx hb dX8_readFork_7 (lv_at hl 0 rfl) ?_
  refine lv_if_ge (tgt := 16) hx hb dX8_readFork_9 (by decide) (fun c_2 => ?_) (fun c_2 => ?_)
  · rw [if_pos c_2] at h
    refine lv_aload_n hx hb dX8_readFork_16 rfl (lv_at hl 1 rfl) ?_
    refine lv_iload hx hb dX8_readFork_17 (lv_at hl 0 rfl) ?_
    refine lv_iload_n hx hb dX8_readFork_19 rfl (lv_at hl 4 rfl) ?_
    obtain ⟨u_3, σ_3, τ_3, q_3, h⟩ := bd_some h
    refine gx_cVv (As := [.int r_1, .int x3]) (rest := []) S hK gx_ok hw (c_X8_use l (E := E) N σ_1 τ_1 r_1 x3 q_3) cw_X8_79 t_9 cl_9 ⟨Nat.le_of_ble_eq_true rfl, Nat.le_of_ble_eq_true rfl⟩ rfl hl.1 rfl (Nat.le_of_ble_eq_true rfl) ⟨Nat.le_of_ble_eq_true rfl, Nat.le_of_ble_eq_true rfl⟩ dX8_readFork_20 (fun σ9 τ9 H locs hp hw => ?_)
    obtain ⟨rfl, rfl⟩ := hp
    refine lv_aload_n hx hb dX8_readFork_23 rfl (lv_at hl 1 rfl) ?_
    refine lv_iconst (v := 1) hx hb dX8_readFork_24 (by decide) ?_
    refine lv_iload_n hx hb dX8_readFork_25 rfl (lv_at hl 3 rfl) ?_
    refine lv_iload hx hb dX8_readFork_26 (lv_at hl 0 rfl) ?_
    refine lv_iconst (v := 0) hx hb dX8_readFork_28 (by decide) ?_
    obtain ⟨u_4, σ_4, τ_4, q_4, h⟩ := bd_some h
    refine gx_cVv (As := [.int 1, .int x2, .int r_1, .int 0]) (rest := []) S hK gx_ok hw (c_X8_addPlace l (E := E) N σ_3 τ_3 1 x2 r_1 0 q_4) cw_X8_71 t_9 cl_9 ⟨Nat.le_of_ble_eq_true rfl, Nat.le_of_ble_eq_true rfl⟩ rfl hl.1 rfl (Nat.le_of_ble_eq_true rfl) ⟨Nat.le_of_ble_eq_true rfl, Nat.le_of_ble_eq_true rfl⟩ dX8_readFork_29 (fun σ9 τ9 H locs hp hw => ?_)
    obtain ⟨rfl, rfl⟩ := hp
    refine lv_iload_n hx hb dX8_readFork_32 rfl (lv_at hl 4 rfl) ?_
    refine lv_iconst (v := 1) hx hb dX8_readFork_33 (by decide) ?_
    refine lv_iadd hx hb dX8_readFork_34 ?_
    obtain ⟨rfl, rfl, rfl⟩ := sm_inj h
    exact gx_ri (post := gq_p (x3 + 1) σ_4 τ_4) (v := x3 + 1) S hr hlk hw rfl dX8_readFork_35 ⟨rfl, rfl, rfl⟩
  · rw [if_neg c_2] at h
    refine lv_iconst (v := (-1)) hx hb dX8_readFork_12 (by decide) ?_
    refine lv_iload_n hx hb dX8_readFork_13 rfl (lv_at hl 4 rfl) ?_
    refine lv_isub hx hb dX8_readFork_14 ?_
    obtain ⟨rfl, rfl, rfl⟩ := sm_inj h
    exact gx_ri (post := gq_p ((-1) - x3) σ_1 τ_1) (v := (-1) - x3) S hr hlk hw rfl dX8_readFork_15 ⟨rfl, rfl, rfl⟩
set_option maxHeartbeats 4000000 in
set_option maxRecDepth 100000 in
theorem c_X8_readFork (l : Launch) {E : gE} (N : Nat) (σ : gI) (τ : gJ) (x2 : Int32) (x3 : Int32) {r : Int32} {σ1 : gI} {τ1 : gJ} (h : B_X8_readFork_0 N σ τ x2 x3 = some (r, σ1, τ1)) : gx_Mi l yX8_readFork cX8_readFork 5 (some .int) 2 gx_tb E σ τ [.ref (E.2.2 + 9), .ref (E.2.2 + 1), .int x2, .int x3] (gq_p r σ1 τ1) := by
  refine gx_bi (by decide +kernel) (Nat.le_of_ble_eq_true rfl) ?_
  intro P9 e9 s m9 below meth C9 S hr hlk hK hw ls hl
  have hl : lv_has ls 5 [(0, .ref (E.2.2 + 9)), (1, .ref (E.2.2 + 1)), (2, .int x2), (3, .int x3)] := hl
  exact b_X8_readFork_0 l S hr hlk hK N σ τ x2 x3 h hw hl
/-! X8_readMill -/
def B_X8_readMill_0 (N : Nat) (σ : gI) (τ : gJ) (x2 : Int32) (x3 : Int32) : Option (Int32 × gI × gJ) := bd (B_X7_digit_0 N σ τ x3) fun r_1 σ_1 τ_1 => if 0 ≤ r_1 then (bd (B_X7_digit_0 N σ_1 τ_1 (x3 + 1)) fun r_3 σ_3 τ_3 => if r_1 ≤ r_3 then (bd (B_X8_addPlace_0 N σ_3 τ_3 4 x2 (-1) ((10 * r_1) + r_3)) fun _ σ_5 τ_5 => some (x3 + 2, σ_5, τ_5)) else (some ((-1) - (x3 + 1), σ_3, τ_3))) else (some ((-1) - x3, σ_1, τ_1))
set_option maxHeartbeats 4000000 in
set_option maxRecDepth 100000 in
theorem b_X8_readMill_0 (l : Launch) (S : CallFix P9 m9 C9 cX8_readMill 6 s av.toArray gx_G RX8) (hr : meth.sig.returnType = (some .int)) (hlk : meth.locks = false) (hK : gx_K E s) (N : Nat) (σ : gI) (τ : gJ) (x2 : Int32) (x3 : Int32) {r : Int32} {σ1 : gI} {τ1 : gJ} (h : B_X8_readMill_0 N σ τ x2 x3 = some (r, σ1, τ1)) {H : Heap} {locs : List Loc} {ls : Array Slot} (hw : gx_W gx_tb gx_tb.length E s σ τ H locs) (hl : lv_has ls 6 [(0, .ref (E.2.2 + 9)), (1, .ref (E.2.2 + 1)), (2, .int x2), (3, .int x3)]) : W P9 l e9 (gx_rm 2) s m9 av.toArray below meth C9 H locs 0 0 (gq_Qi below av s E r σ1 τ1) (F0 m9 0 ls []) := by
  have hx := S.1
  have hb := S.2.1
  unfold B_X8_readMill_0 at h
  refine lv_aload_n hx hb dX8_readMill_0 rfl (lv_at hl 1 rfl) ?_
  refine lv_iload_n hx hb dX8_readMill_1 rfl (lv_at hl 3 rfl) ?_
  obtain ⟨r_1, σ_1, τ_1, q_1, h⟩ := bd_some h
  refine gx_cVi (As := [.int x3]) (rest := []) S hK gx_ok hw (c_X7_digit l (E := E) N σ τ x3 q_1) cw_X8_94 t_1 cl_8 ⟨Nat.le_of_ble_eq_true rfl, Nat.le_of_ble_eq_true rfl⟩ rfl hl.1 rfl (Nat.le_of_ble_eq_true rfl) ⟨Nat.le_of_ble_eq_true rfl, Nat.le_of_ble_eq_true rfl⟩ dX8_readMill_2 (fun r9 σ9 τ9 H locs hp hw => ?_)
  obtain ⟨rfl, rfl, rfl⟩ := hp
  refine lv_istore (lv' := [(4, .int r_1), (0, .ref (E.2.2 + 9)), (1, .ref (E.2.2 + 1)), (2, .int x2), (3, .int x3)]) hx hb dX8_readMill_5 hl (by decide) rfl (fun ls hl => ?_)
  refine lv_iload hx hb dX8_readMill_7 (lv_at hl 0 rfl) ?_
  refine lv_if_ge (tgt := 16) hx hb dX8_readMill_9 (by decide) (fun c_2 => ?_) (fun c_2 => ?_)
  · rw [if_pos c_2] at h
    refine lv_aload_n hx hb dX8_readMill_16 rfl (lv_at hl 2 rfl) ?_
    refine lv_iload_n hx hb dX8_readMill_17 rfl (lv_at hl 4 rfl) ?_
    refine lv_iconst (v := 1) hx hb dX8_readMill_18 (by decide) ?_
    refine lv_iadd hx hb dX8_readMill_19 ?_
    obtain ⟨r_3, σ_3, τ_3, q_3, h⟩ := bd_some h
    refine gx_cVi (As := [.int (x3 + 1)]) (rest := []) S hK gx_ok hw (c_X7_digit l (E := E) N σ_1 τ_1 (x3 + 1) q_3) cw_X8_94 t_1 cl_8 ⟨Nat.le_of_ble_eq_true rfl, Nat.le_of_ble_eq_true rfl⟩ rfl hl.1 rfl (Nat.le_of_ble_eq_true rfl) ⟨Nat.le_of_ble_eq_true rfl, Nat.le_of_ble_eq_true rfl⟩ dX8_readMill_20 (fun r9 σ9 τ9 H locs hp hw => ?_)
    obtain ⟨rfl, rfl, rfl⟩ := hp
    refine lv_istore (lv' := [(5, .int r_3), (4, .int r_1), (0, .ref (E.2.2 + 9)), (1, .ref (E.2.2 + 1)), (2, .int x2), (3, .int x3)]) hx hb dX8_readMill_23 hl (by decide) rfl (fun ls hl => ?_)
    refine lv_iload hx hb dX8_readMill_25 (lv_at hl 0 rfl) ?_
    refine lv_iload hx hb dX8_readMill_27 (lv_at hl 1 rfl) ?_
    refine lv_icmp_ge (tgt := 38) hx hb dX8_readMill_29 (by decide) (fun c_4 => ?_) (fun c_4 => ?_)
    · rw [if_pos c_4] at h
      refine lv_aload_n hx hb dX8_readMill_38 rfl (lv_at hl 2 rfl) ?_
      refine lv_iconst (v := 4) hx hb dX8_readMill_39 (by decide) ?_
      refine lv_iload_n hx hb dX8_readMill_40 rfl (lv_at hl 4 rfl) ?_
      refine lv_iconst (v := (-1)) hx hb dX8_readMill_41 (by decide) ?_
      refine lv_bipush (v := 10) hx hb dX8_readMill_42 (by decide) ?_
      refine lv_iload hx hb dX8_readMill_44 (lv_at hl 1 rfl) ?_
      refine lv_imul hx hb dX8_readMill_46 ?_
      refine lv_iload hx hb dX8_readMill_47 (lv_at hl 0 rfl) ?_
      refine lv_iadd hx hb dX8_readMill_49 ?_
      obtain ⟨u_5, σ_5, τ_5, q_5, h⟩ := bd_some h
      refine gx_cVv (As := [.int 4, .int x2, .int (-1), .int ((10 * r_1) + r_3)]) (rest := []) S hK gx_ok hw (c_X8_addPlace l (E := E) N σ_3 τ_3 4 x2 (-1) ((10 * r_1) + r_3) q_5) cw_X8_71 t_9 cl_9 ⟨Nat.le_of_ble_eq_true rfl, Nat.le_of_ble_eq_true rfl⟩ rfl hl.1 rfl (Nat.le_of_ble_eq_true rfl) ⟨Nat.le_of_ble_eq_true rfl, Nat.le_of_ble_eq_true rfl⟩ dX8_readMill_50 (fun σ9 τ9 H locs hp hw => ?_)
      obtain ⟨rfl, rfl⟩ := hp
      refine lv_iload_n hx hb dX8_readMill_53 rfl (lv_at hl 5 rfl) ?_
      refine lv_iconst (v := 2) hx hb dX8_readMill_54 (by decide) ?_
      refine lv_iadd hx hb dX8_readMill_55 ?_
      obtain ⟨rfl, rfl, rfl⟩ := sm_inj h
      exact gx_ri (post := gq_p (x3 + 2) σ_5 τ_5) (v := x3 + 2) S hr hlk hw rfl dX8_readMill_56 ⟨rfl, rfl, rfl⟩
    · rw [if_neg c_4] at h
      refine lv_iconst (v := (-1)) hx hb dX8_readMill_32 (by decide) ?_
      refine lv_iload_n hx hb dX8_readMill_33 rfl (lv_at hl 5 rfl) ?_
      refine lv_iconst (v := 1) hx hb dX8_readMill_34 (by decide) ?_
      refine lv_iadd hx hb dX8_readMill_35 ?_
      refine lv_isub hx hb dX8_readMill_36 ?_
      obtain ⟨rfl, rfl, rfl⟩ := sm_inj h
      exact gx_ri (post := gq_p ((-1) - (x3 + 1)) σ_3 τ_3) (v := (-1) - (x3 + 1)) S hr hlk hw rfl dX8_readMill_37 ⟨rfl, rfl, rfl⟩
  · rw [if_neg c_2] at h
    refine lv_iconst (v := (-1)) hx hb dX8_readMill_12 (by decide) ?_
    refine lv_iload_n hx hb dX8_readMill_13 rfl (lv_at hl 4 rfl) ?_
    refine lv_isub hx hb dX8_readMill_14 ?_
    obtain ⟨rfl, rfl, rfl⟩ := sm_inj h
    exact gx_ri (post := gq_p ((-1) - x3) σ_1 τ_1) (v := (-1) - x3) S hr hlk hw rfl dX8_readMill_15 ⟨rfl, rfl, rfl⟩
set_option maxHeartbeats 4000000 in
set_option maxRecDepth 100000 in
theorem c_X8_readMill (l : Launch) {E : gE} (N : Nat) (σ : gI) (τ : gJ) (x2 : Int32) (x3 : Int32) {r : Int32} {σ1 : gI} {τ1 : gJ} (h : B_X8_readMill_0 N σ τ x2 x3 = some (r, σ1, τ1)) : gx_Mi l yX8_readMill cX8_readMill 6 (some .int) 2 gx_tb E σ τ [.ref (E.2.2 + 9), .ref (E.2.2 + 1), .int x2, .int x3] (gq_p r σ1 τ1) := by
  refine gx_bi (by decide +kernel) (Nat.le_of_ble_eq_true rfl) ?_
  intro P9 e9 s m9 below meth C9 S hr hlk hK hw ls hl
  have hl : lv_has ls 6 [(0, .ref (E.2.2 + 9)), (1, .ref (E.2.2 + 1)), (2, .int x2), (3, .int x3)] := hl
  exact b_X8_readMill_0 l S hr hlk hK N σ τ x2 x3 h hw hl
/-! X8_readFigure -/
def B_X8_readFigure_20 (N : Nat) (σ : gI) (τ : gJ) (x2 : Int32) (x3 : Int32) (x4 : Int32) (x5 : Int32) (y0 : Int32) (y1 : Int32) : Option (Int32 × gI × gJ) := if y0 ≤ y1 then (bd (B_X8_addPlace_0 N σ τ x2 x3 (-1) x5) fun _ σ_2 τ_2 => some (x4 + 1, σ_2, τ_2)) else (some ((-1) - x4, σ, τ))
def B_X8_readFigure_0 (N : Nat) (σ : gI) (τ : gJ) (x2 : Int32) (x3 : Int32) (x4 : Int32) : Option (Int32 × gI × gJ) := bd (B_X7_digit_0 N σ τ x4) fun r_1 σ_1 τ_1 => if x2 = 5 then (B_X8_readFigure_20 N σ_1 τ_1 x2 x3 x4 r_1 2 r_1) else (B_X8_readFigure_20 N σ_1 τ_1 x2 x3 x4 r_1 1 r_1)
set_option maxHeartbeats 4000000 in
set_option maxRecDepth 100000 in
theorem b_X8_readFigure_20 (l : Launch) (S : CallFix P9 m9 C9 cX8_readFigure 6 s av.toArray gx_G RX8) (hr : meth.sig.returnType = (some .int)) (hlk : meth.locks = false) (hK : gx_K E s) (N : Nat) (σ : gI) (τ : gJ) (x2 : Int32) (x3 : Int32) (x4 : Int32) (x5 : Int32) (y0 : Int32) (y1 : Int32) {r : Int32} {σ1 : gI} {τ1 : gJ} (h : B_X8_readFigure_20 N σ τ x2 x3 x4 x5 y0 y1 = some (r, σ1, τ1)) {H : Heap} {locs : List Loc} {ls : Array Slot} (hw : gx_W gx_tb gx_tb.length E s σ τ H locs) (hl : lv_has ls 6 [(0, .ref (E.2.2 + 9)), (2, .int x2), (3, .int x3), (4, .int x4), (5, .int x5)]) : W P9 l e9 (gx_rm 2) s m9 av.toArray below meth C9 H locs 0 0 (gq_Qi below av s E r σ1 τ1) (F0 m9 20 ls [.int y0, .int y1]) := by
  have hx := S.1
  have hb := S.2.1
  unfold B_X8_readFigure_20 at h
  refine lv_icmp_ge (tgt := 28) hx hb dX8_readFigure_20 (by decide) (fun c_1 => ?_) (fun c_1 => ?_)
  · rw [if_pos c_1] at h
    refine lv_aload_n hx hb dX8_readFigure_28 rfl (lv_at hl 0 rfl) ?_
    refine lv_iload_n hx hb dX8_readFigure_29 rfl (lv_at hl 1 rfl) ?_
    refine lv_iload_n hx hb dX8_readFigure_30 rfl (lv_at hl 2 rfl) ?_
    refine lv_iconst (v := (-1)) hx hb dX8_readFigure_31 (by decide) ?_
    refine lv_iload hx hb dX8_readFigure_32 (lv_at hl 4 rfl) ?_
    obtain ⟨u_2, σ_2, τ_2, q_2, h⟩ := bd_some h
    refine gx_cVv (As := [.int x2, .int x3, .int (-1), .int x5]) (rest := []) S hK gx_ok hw (c_X8_addPlace l (E := E) N σ τ x2 x3 (-1) x5 q_2) cw_X8_71 t_9 cl_9 ⟨Nat.le_of_ble_eq_true rfl, Nat.le_of_ble_eq_true rfl⟩ rfl hl.1 rfl (Nat.le_of_ble_eq_true rfl) ⟨Nat.le_of_ble_eq_true rfl, Nat.le_of_ble_eq_true rfl⟩ dX8_readFigure_34 (fun σ9 τ9 H locs hp hw => ?_)
    obtain ⟨rfl, rfl⟩ := hp
    refine lv_iload hx hb dX8_readFigure_37 (lv_at hl 3 rfl) ?_
    refine lv_iconst (v := 1) hx hb dX8_readFigure_39 (by decide) ?_
    refine lv_iadd hx hb dX8_readFigure_40 ?_
    obtain ⟨rfl, rfl, rfl⟩ := sm_inj h
    exact gx_ri (post := gq_p (x4 + 1) σ_2 τ_2) (v := x4 + 1) S hr hlk hw rfl dX8_readFigure_41 ⟨rfl, rfl, rfl⟩
  · rw [if_neg c_1] at h
    refine lv_iconst (v := (-1)) hx hb dX8_readFigure_23 (by decide) ?_
    refine lv_iload hx hb dX8_readFigure_24 (lv_at hl 3 rfl) ?_
    refine lv_isub hx hb dX8_readFigure_26 ?_
    obtain ⟨rfl, rfl, rfl⟩ := sm_inj h
    exact gx_ri (post := gq_p ((-1) - x4) σ τ) (v := (-1) - x4) S hr hlk hw rfl dX8_readFigure_27 ⟨rfl, rfl, rfl⟩
set_option maxHeartbeats 4000000 in
set_option maxRecDepth 100000 in
theorem b_X8_readFigure_0 (l : Launch) (S : CallFix P9 m9 C9 cX8_readFigure 6 s av.toArray gx_G RX8) (hr : meth.sig.returnType = (some .int)) (hlk : meth.locks = false) (hK : gx_K E s) (N : Nat) (σ : gI) (τ : gJ) (x2 : Int32) (x3 : Int32) (x4 : Int32) {r : Int32} {σ1 : gI} {τ1 : gJ} (h : B_X8_readFigure_0 N σ τ x2 x3 x4 = some (r, σ1, τ1)) {H : Heap} {locs : List Loc} {ls : Array Slot} (hw : gx_W gx_tb gx_tb.length E s σ τ H locs) (hl : lv_has ls 6 [(0, .ref (E.2.2 + 9)), (1, .ref (E.2.2 + 1)), (2, .int x2), (3, .int x3), (4, .int x4)]) : W P9 l e9 (gx_rm 2) s m9 av.toArray below meth C9 H locs 0 0 (gq_Qi below av s E r σ1 τ1) (F0 m9 0 ls []) := by
  have hx := S.1
  have hb := S.2.1
  unfold B_X8_readFigure_0 at h
  refine lv_aload_n hx hb dX8_readFigure_0 rfl (lv_at hl 1 rfl) ?_
  refine lv_iload hx hb dX8_readFigure_1 (lv_at hl 4 rfl) ?_
  obtain ⟨r_1, σ_1, τ_1, q_1, h⟩ := bd_some h
  refine gx_cVi (As := [.int x4]) (rest := []) S hK gx_ok hw (c_X7_digit l (E := E) N σ τ x4 q_1) cw_X8_94 t_1 cl_8 ⟨Nat.le_of_ble_eq_true rfl, Nat.le_of_ble_eq_true rfl⟩ rfl hl.1 rfl (Nat.le_of_ble_eq_true rfl) ⟨Nat.le_of_ble_eq_true rfl, Nat.le_of_ble_eq_true rfl⟩ dX8_readFigure_3 (fun r9 σ9 τ9 H locs hp hw => ?_)
  obtain ⟨rfl, rfl, rfl⟩ := hp
  refine lv_istore (lv' := [(5, .int r_1), (0, .ref (E.2.2 + 9)), (1, .ref (E.2.2 + 1)), (2, .int x2), (3, .int x3), (4, .int x4)]) hx hb dX8_readFigure_6 hl (by decide) rfl (fun ls hl => ?_)
  refine lv_iload hx hb dX8_readFigure_8 (lv_at hl 0 rfl) ?_
  refine lv_iload_n hx hb dX8_readFigure_10 rfl (lv_at hl 3 rfl) ?_
  refine lv_iconst (v := 5) hx hb dX8_readFigure_11 (by decide) ?_
  refine lv_icmp_ne (tgt := 19) hx hb dX8_readFigure_12 (by decide) (fun c_2 => ?_) (fun c_2 => ?_)
  · rw [if_neg c_2] at h
    refine lv_iconst (v := 1) hx hb dX8_readFigure_19 (by decide) ?_
    exact b_X8_readFigure_20 l S hr hlk hK N σ_1 τ_1 x2 x3 x4 r_1 1 r_1 h hw (lv_sub hl [1, 3, 4, 5, 0] rfl)
  · rw [if_pos c_2] at h
    refine lv_iconst (v := 2) hx hb dX8_readFigure_15 (by decide) ?_
    refine lv_goto (tgt := 20) hx hb dX8_readFigure_16 (by decide) ?_
    exact b_X8_readFigure_20 l S hr hlk hK N σ_1 τ_1 x2 x3 x4 r_1 2 r_1 h hw (lv_sub hl [1, 3, 4, 5, 0] rfl)
set_option maxHeartbeats 4000000 in
set_option maxRecDepth 100000 in
theorem c_X8_readFigure (l : Launch) {E : gE} (N : Nat) (σ : gI) (τ : gJ) (x2 : Int32) (x3 : Int32) (x4 : Int32) {r : Int32} {σ1 : gI} {τ1 : gJ} (h : B_X8_readFigure_0 N σ τ x2 x3 x4 = some (r, σ1, τ1)) : gx_Mi l yX8_readFigure cX8_readFigure 6 (some .int) 2 gx_tb E σ τ [.ref (E.2.2 + 9), .ref (E.2.2 + 1), .int x2, .int x3, .int x4] (gq_p r σ1 τ1) := by
  refine gx_bi (by decide +kernel) (Nat.le_of_ble_eq_true rfl) ?_
  intro P9 e9 s m9 below meth C9 S hr hlk hK hw ls hl
  have hl : lv_has ls 6 [(0, .ref (E.2.2 + 9)), (1, .ref (E.2.2 + 1)), (2, .int x2), (3, .int x3), (4, .int x4)] := hl
  exact b_X8_readFigure_0 l S hr hlk hK N σ τ x2 x3 x4 h hw hl
/-! X8_readLine -/
def B_X8_readLine_0 (N : Nat) (σ : gI) (τ : gJ) (x2 : Int32) : Option (Int32 × gI × gJ) := bd (B_X7_oneOf_0 N sb_0 σ τ x2) fun r_1 σ_1 τ_1 => if 0 ≤ r_1 then (if r_1 = 6 then (bd (B_X8_addPlace_0 N σ_1 τ_1 r_1 (-1) (-1) 0) fun _ σ_14 τ_14 => some (x2 + 1, σ_14, τ_14)) else (bd (B_X7_letter_0 N σ_1 τ_1 (x2 + 1)) fun r_4 σ_4 τ_4 => if 0 ≤ r_4 then (bd (B_X8_use_0 N σ_4 τ_4 r_4 (x2 + 1)) fun _ σ_6 τ_6 => if r_1 = 0 then (bd (B_X8_addPlace_0 N σ_6 τ_6 r_1 r_4 (-1) 0) fun _ σ_13 τ_13 => some (x2 + 2, σ_13, τ_13)) else (if r_1 = 1 then (bd (B_X8_readFork_0 N σ_6 τ_6 r_4 (x2 + 2)) fun r_12 σ_12 τ_12 => some (r_12, σ_12, τ_12)) else (if r_1 = 4 then (bd (B_X8_readMill_0 N σ_6 τ_6 r_4 (x2 + 2)) fun r_11 σ_11 τ_11 => some (r_11, σ_11, τ_11)) else (bd (B_X8_readFigure_0 N σ_6 τ_6 r_1 r_4 (x2 + 2)) fun r_10 σ_10 τ_10 => some (r_10, σ_10, τ_10))))) else (some ((-1) - (x2 + 1), σ_4, τ_4)))) else (some ((-1) - x2, σ_1, τ_1))
set_option maxHeartbeats 4000000 in
set_option maxRecDepth 100000 in
theorem b_X8_readLine_0 (l : Launch) (S : CallFix P9 m9 C9 cX8_readLine 5 s av.toArray gx_G RX8) (hr : meth.sig.returnType = (some .int)) (hlk : meth.locks = false) (hK : gx_K E s) (N : Nat) (σ : gI) (τ : gJ) (x2 : Int32) {r : Int32} {σ1 : gI} {τ1 : gJ} (h : B_X8_readLine_0 N σ τ x2 = some (r, σ1, τ1)) {H : Heap} {locs : List Loc} {ls : Array Slot} (hw : gx_W gx_tb gx_tb.length E s σ τ H locs) (hl : lv_has ls 5 [(0, .ref (E.2.2 + 9)), (1, .ref (E.2.2 + 1)), (2, .int x2)]) : W P9 l e9 (gx_rm 5) s m9 av.toArray below meth C9 H locs 0 0 (gq_Qi below av s E r σ1 τ1) (F0 m9 0 ls []) := by
  have hx := S.1
  have hb := S.2.1
  unfold B_X8_readLine_0 at h
  refine lv_aload_n hx hb dX8_readLine_0 rfl (lv_at hl 1 rfl) ?_
  refine gx_lds S hK ss_0 rfl dX8_readLine_1 ?_
  refine lv_iload_n hx hb dX8_readLine_3 rfl (lv_at hl 2 rfl) ?_
  obtain ⟨r_1, σ_1, τ_1, q_1, h⟩ := bd_some h
  refine zs_V (As := [.ref (E.1.2.1 0), .int x2]) (rest := []) S hK hw (zs_k hK hw zk_0) (c_X7_oneOf l (E := E) N sb_0 σ τ x2 q_1) rfl cw_X8_67 (va_recv hK.1 hw.1 cl_8.1 (gx_at t_1)) ⟨Nat.le_of_ble_eq_true rfl, Nat.le_of_ble_eq_true rfl⟩ rfl hl.1 rfl (Nat.le_of_ble_eq_true rfl) ⟨Nat.le_of_ble_eq_true rfl, Nat.le_of_ble_eq_true rfl⟩ dX8_readLine_4 (fun r9 σ9 τ9 H locs hp hw => ?_)
  obtain ⟨rfl, rfl, rfl⟩ := hp
  refine lv_istore_n (lv' := [(3, .int r_1), (0, .ref (E.2.2 + 9)), (1, .ref (E.2.2 + 1)), (2, .int x2)]) hx hb dX8_readLine_7 rfl hl (by decide) rfl (fun ls hl => ?_)
  refine lv_iload_n hx hb dX8_readLine_8 rfl (lv_at hl 0 rfl) ?_
  refine lv_if_ge (tgt := 16) hx hb dX8_readLine_9 (by decide) (fun c_2 => ?_) (fun c_2 => ?_)
  · rw [if_pos c_2] at h
    refine lv_iload_n hx hb dX8_readLine_16 rfl (lv_at hl 0 rfl) ?_
    refine lv_bipush (v := 6) hx hb dX8_readLine_17 (by decide) ?_
    refine lv_icmp_ne (tgt := 34) hx hb dX8_readLine_19 (by decide) (fun c_3 => ?_) (fun c_3 => ?_)
    · rw [if_neg c_3] at h
      refine lv_aload_n hx hb dX8_readLine_34 rfl (lv_at hl 2 rfl) ?_
      refine lv_iload_n hx hb dX8_readLine_35 rfl (lv_at hl 3 rfl) ?_
      refine lv_iconst (v := 1) hx hb dX8_readLine_36 (by decide) ?_
      refine lv_iadd hx hb dX8_readLine_37 ?_
      obtain ⟨r_4, σ_4, τ_4, q_4, h⟩ := bd_some h
      refine gx_cVi (As := [.int (x2 + 1)]) (rest := []) S hK gx_ok hw (c_X7_letter l (E := E) N σ_1 τ_1 (x2 + 1) q_4) cw_X8_75 t_1 cl_8 ⟨Nat.le_of_ble_eq_true rfl, Nat.le_of_ble_eq_true rfl⟩ rfl hl.1 rfl (Nat.le_of_ble_eq_true rfl) ⟨Nat.le_of_ble_eq_true rfl, Nat.le_of_ble_eq_true rfl⟩ dX8_readLine_38 (fun r9 σ9 τ9 H locs hp hw => ?_)
      obtain ⟨rfl, rfl, rfl⟩ := hp
      refine lv_istore (lv' := [(4, .int r_4), (3, .int r_1), (0, .ref (E.2.2 + 9)), (1, .ref (E.2.2 + 1)), (2, .int x2)]) hx hb dX8_readLine_41 hl (by decide) rfl (fun ls hl => ?_)
      refine lv_iload hx hb dX8_readLine_43 (lv_at hl 0 rfl) ?_
      refine lv_if_ge (tgt := 54) hx hb dX8_readLine_45 (by decide) (fun c_5 => ?_) (fun c_5 => ?_)
      · rw [if_pos c_5] at h
        refine lv_aload_n hx hb dX8_readLine_54 rfl (lv_at hl 2 rfl) ?_
        refine lv_iload hx hb dX8_readLine_55 (lv_at hl 0 rfl) ?_
        refine lv_iload_n hx hb dX8_readLine_57 rfl (lv_at hl 4 rfl) ?_
        refine lv_iconst (v := 1) hx hb dX8_readLine_58 (by decide) ?_
        refine lv_iadd hx hb dX8_readLine_59 ?_
        obtain ⟨u_6, σ_6, τ_6, q_6, h⟩ := bd_some h
        refine gx_cVv (As := [.int r_4, .int (x2 + 1)]) (rest := []) S hK gx_ok hw (c_X8_use l (E := E) N σ_4 τ_4 r_4 (x2 + 1) q_6) cw_X8_79 t_9 cl_9 ⟨Nat.le_of_ble_eq_true rfl, Nat.le_of_ble_eq_true rfl⟩ rfl hl.1 rfl (Nat.le_of_ble_eq_true rfl) ⟨Nat.le_of_ble_eq_true rfl, Nat.le_of_ble_eq_true rfl⟩ dX8_readLine_60 (fun σ9 τ9 H locs hp hw => ?_)
        obtain ⟨rfl, rfl⟩ := hp
        refine lv_iload_n hx hb dX8_readLine_63 rfl (lv_at hl 1 rfl) ?_
        refine lv_if_ne (tgt := 80) hx hb dX8_readLine_64 (by decide) (fun c_7 => ?_) (fun c_7 => ?_)
        · rw [if_neg c_7] at h
          refine lv_iload_n hx hb dX8_readLine_80 rfl (lv_at hl 1 rfl) ?_
          refine lv_iconst (v := 1) hx hb dX8_readLine_81 (by decide) ?_
          refine lv_icmp_ne (tgt := 96) hx hb dX8_readLine_82 (by decide) (fun c_8 => ?_) (fun c_8 => ?_)
          · rw [if_neg c_8] at h
            refine lv_iload_n hx hb dX8_readLine_96 rfl (lv_at hl 1 rfl) ?_
            refine lv_iconst (v := 4) hx hb dX8_readLine_97 (by decide) ?_
            refine lv_icmp_ne (tgt := 114) hx hb dX8_readLine_98 (by decide) (fun c_9 => ?_) (fun c_9 => ?_)
            · rw [if_neg c_9] at h
              refine lv_aload_n hx hb dX8_readLine_114 rfl (lv_at hl 2 rfl) ?_
              refine lv_aload_n hx hb dX8_readLine_115 rfl (lv_at hl 3 rfl) ?_
              refine lv_iload_n hx hb dX8_readLine_116 rfl (lv_at hl 1 rfl) ?_
              refine lv_iload hx hb dX8_readLine_117 (lv_at hl 0 rfl) ?_
              refine lv_iload_n hx hb dX8_readLine_119 rfl (lv_at hl 4 rfl) ?_
              refine lv_iconst (v := 2) hx hb dX8_readLine_120 (by decide) ?_
              refine lv_iadd hx hb dX8_readLine_121 ?_
              obtain ⟨r_10, σ_10, τ_10, q_10, h⟩ := bd_some h
              refine gx_cVi (As := [.ref (E.2.2 + 1), .int r_1, .int r_4, .int (x2 + 2)]) (rest := []) S hK gx_ok hw (c_X8_readFigure l (E := E) N σ_6 τ_6 r_1 r_4 (x2 + 2) q_10) cw_X8_90 t_9 cl_9 ⟨Nat.le_of_ble_eq_true rfl, Nat.le_of_ble_eq_true rfl⟩ rfl hl.1 rfl (Nat.le_of_ble_eq_true rfl) ⟨Nat.le_of_ble_eq_true rfl, Nat.le_of_ble_eq_true rfl⟩ dX8_readLine_122 (fun r9 σ9 τ9 H locs hp hw => ?_)
              obtain ⟨rfl, rfl, rfl⟩ := hp
              obtain ⟨rfl, rfl, rfl⟩ := sm_inj h
              exact gx_ri (post := gq_p r_10 σ_10 τ_10) (v := r_10) S hr hlk hw rfl dX8_readLine_125 ⟨rfl, rfl, rfl⟩
            · rw [if_pos c_9] at h
              refine lv_aload_n hx hb dX8_readLine_101 rfl (lv_at hl 2 rfl) ?_
              refine lv_aload_n hx hb dX8_readLine_102 rfl (lv_at hl 3 rfl) ?_
              refine lv_iload hx hb dX8_readLine_103 (lv_at hl 0 rfl) ?_
              refine lv_iload_n hx hb dX8_readLine_105 rfl (lv_at hl 4 rfl) ?_
              refine lv_iconst (v := 2) hx hb dX8_readLine_106 (by decide) ?_
              refine lv_iadd hx hb dX8_readLine_107 ?_
              obtain ⟨r_11, σ_11, τ_11, q_11, h⟩ := bd_some h
              refine gx_cVi (As := [.ref (E.2.2 + 1), .int r_4, .int (x2 + 2)]) (rest := []) S hK gx_ok hw (c_X8_readMill l (E := E) N σ_6 τ_6 r_4 (x2 + 2) q_11) cw_X8_87 t_9 cl_9 ⟨Nat.le_of_ble_eq_true rfl, Nat.le_of_ble_eq_true rfl⟩ rfl hl.1 rfl (Nat.le_of_ble_eq_true rfl) ⟨Nat.le_of_ble_eq_true rfl, Nat.le_of_ble_eq_true rfl⟩ dX8_readLine_108 (fun r9 σ9 τ9 H locs hp hw => ?_)
              obtain ⟨rfl, rfl, rfl⟩ := hp
              refine lv_goto (tgt := 125) hx hb dX8_readLine_111 (by decide) ?_
              obtain ⟨rfl, rfl, rfl⟩ := sm_inj h
              exact gx_ri (post := gq_p r_11 σ_11 τ_11) (v := r_11) S hr hlk hw rfl dX8_readLine_125 ⟨rfl, rfl, rfl⟩
          · rw [if_pos c_8] at h
            refine lv_aload_n hx hb dX8_readLine_85 rfl (lv_at hl 2 rfl) ?_
            refine lv_aload_n hx hb dX8_readLine_86 rfl (lv_at hl 3 rfl) ?_
            refine lv_iload hx hb dX8_readLine_87 (lv_at hl 0 rfl) ?_
            refine lv_iload_n hx hb dX8_readLine_89 rfl (lv_at hl 4 rfl) ?_
            refine lv_iconst (v := 2) hx hb dX8_readLine_90 (by decide) ?_
            refine lv_iadd hx hb dX8_readLine_91 ?_
            obtain ⟨r_12, σ_12, τ_12, q_12, h⟩ := bd_some h
            refine gx_cVi (As := [.ref (E.2.2 + 1), .int r_4, .int (x2 + 2)]) (rest := []) S hK gx_ok hw (c_X8_readFork l (E := E) N σ_6 τ_6 r_4 (x2 + 2) q_12) cw_X8_83 t_9 cl_9 ⟨Nat.le_of_ble_eq_true rfl, Nat.le_of_ble_eq_true rfl⟩ rfl hl.1 rfl (Nat.le_of_ble_eq_true rfl) ⟨Nat.le_of_ble_eq_true rfl, Nat.le_of_ble_eq_true rfl⟩ dX8_readLine_92 (fun r9 σ9 τ9 H locs hp hw => ?_)
            obtain ⟨rfl, rfl, rfl⟩ := hp
            obtain ⟨rfl, rfl, rfl⟩ := sm_inj h
            exact gx_ri (post := gq_p r_12 σ_12 τ_12) (v := r_12) S hr hlk hw rfl dX8_readLine_95 ⟨rfl, rfl, rfl⟩
        · rw [if_pos c_7] at h
          refine lv_aload_n hx hb dX8_readLine_67 rfl (lv_at hl 2 rfl) ?_
          refine lv_iload_n hx hb dX8_readLine_68 rfl (lv_at hl 1 rfl) ?_
          refine lv_iload hx hb dX8_readLine_69 (lv_at hl 0 rfl) ?_
          refine lv_iconst (v := (-1)) hx hb dX8_readLine_71 (by decide) ?_
          refine lv_iconst (v := 0) hx hb dX8_readLine_72 (by decide) ?_
          obtain ⟨u_13, σ_13, τ_13, q_13, h⟩ := bd_some h
          refine gx_cVv (As := [.int r_1, .int r_4, .int (-1), .int 0]) (rest := []) S hK gx_ok hw (c_X8_addPlace l (E := E) N σ_6 τ_6 r_1 r_4 (-1) 0 q_13) cw_X8_71 t_9 cl_9 ⟨Nat.le_of_ble_eq_true rfl, Nat.le_of_ble_eq_true rfl⟩ rfl hl.1 rfl (Nat.le_of_ble_eq_true rfl) ⟨Nat.le_of_ble_eq_true rfl, Nat.le_of_ble_eq_true rfl⟩ dX8_readLine_73 (fun σ9 τ9 H locs hp hw => ?_)
          obtain ⟨rfl, rfl⟩ := hp
          refine lv_iload_n hx hb dX8_readLine_76 rfl (lv_at hl 4 rfl) ?_
          refine lv_iconst (v := 2) hx hb dX8_readLine_77 (by decide) ?_
          refine lv_iadd hx hb dX8_readLine_78 ?_
          obtain ⟨rfl, rfl, rfl⟩ := sm_inj h
          exact gx_ri (post := gq_p (x2 + 2) σ_13 τ_13) (v := x2 + 2) S hr hlk hw rfl dX8_readLine_79 ⟨rfl, rfl, rfl⟩
      · rw [if_neg c_5] at h
        refine lv_iconst (v := (-1)) hx hb dX8_readLine_48 (by decide) ?_
        refine lv_iload_n hx hb dX8_readLine_49 rfl (lv_at hl 4 rfl) ?_
        refine lv_iconst (v := 1) hx hb dX8_readLine_50 (by decide) ?_
        refine lv_iadd hx hb dX8_readLine_51 ?_
        refine lv_isub hx hb dX8_readLine_52 ?_
        obtain ⟨rfl, rfl, rfl⟩ := sm_inj h
        exact gx_ri (post := gq_p ((-1) - (x2 + 1)) σ_4 τ_4) (v := (-1) - (x2 + 1)) S hr hlk hw rfl dX8_readLine_53 ⟨rfl, rfl, rfl⟩
    · rw [if_pos c_3] at h
      refine lv_aload_n hx hb dX8_readLine_22 rfl (lv_at hl 1 rfl) ?_
      refine lv_iload_n hx hb dX8_readLine_23 rfl (lv_at hl 0 rfl) ?_
      refine lv_iconst (v := (-1)) hx hb dX8_readLine_24 (by decide) ?_
      refine lv_iconst (v := (-1)) hx hb dX8_readLine_25 (by decide) ?_
      refine lv_iconst (v := 0) hx hb dX8_readLine_26 (by decide) ?_
      obtain ⟨u_14, σ_14, τ_14, q_14, h⟩ := bd_some h
      refine gx_cVv (As := [.int r_1, .int (-1), .int (-1), .int 0]) (rest := []) S hK gx_ok hw (c_X8_addPlace l (E := E) N σ_1 τ_1 r_1 (-1) (-1) 0 q_14) cw_X8_71 t_9 cl_9 ⟨Nat.le_of_ble_eq_true rfl, Nat.le_of_ble_eq_true rfl⟩ rfl hl.1 rfl (Nat.le_of_ble_eq_true rfl) ⟨Nat.le_of_ble_eq_true rfl, Nat.le_of_ble_eq_true rfl⟩ dX8_readLine_27 (fun σ9 τ9 H locs hp hw => ?_)
      obtain ⟨rfl, rfl⟩ := hp
      refine lv_iload_n hx hb dX8_readLine_30 rfl (lv_at hl 3 rfl) ?_
      refine lv_iconst (v := 1) hx hb dX8_readLine_31 (by decide) ?_
      refine lv_iadd hx hb dX8_readLine_32 ?_
      obtain ⟨rfl, rfl, rfl⟩ := sm_inj h
      exact gx_ri (post := gq_p (x2 + 1) σ_14 τ_14) (v := x2 + 1) S hr hlk hw rfl dX8_readLine_33 ⟨rfl, rfl, rfl⟩
  · rw [if_neg c_2] at h
    refine lv_iconst (v := (-1)) hx hb dX8_readLine_12 (by decide) ?_
    refine lv_iload_n hx hb dX8_readLine_13 rfl (lv_at hl 3 rfl) ?_
    refine lv_isub hx hb dX8_readLine_14 ?_
    obtain ⟨rfl, rfl, rfl⟩ := sm_inj h
    exact gx_ri (post := gq_p ((-1) - x2) σ_1 τ_1) (v := (-1) - x2) S hr hlk hw rfl dX8_readLine_15 ⟨rfl, rfl, rfl⟩
set_option maxHeartbeats 4000000 in
set_option maxRecDepth 100000 in
theorem c_X8_readLine (l : Launch) {E : gE} (N : Nat) (σ : gI) (τ : gJ) (x2 : Int32) {r : Int32} {σ1 : gI} {τ1 : gJ} (h : B_X8_readLine_0 N σ τ x2 = some (r, σ1, τ1)) : gx_Mi l yX8_readLine cX8_readLine 5 (some .int) 5 gx_tb E σ τ [.ref (E.2.2 + 9), .ref (E.2.2 + 1), .int x2] (gq_p r σ1 τ1) := by
  refine gx_bi (by decide +kernel) (Nat.le_of_ble_eq_true rfl) ?_
  intro P9 e9 s m9 below meth C9 S hr hlk hK hw ls hl
  have hl : lv_has ls 5 [(0, .ref (E.2.2 + 9)), (1, .ref (E.2.2 + 1)), (2, .int x2)] := hl
  exact b_X8_readLine_0 l S hr hlk hK N σ τ x2 h hw hl
/-! X8_judgeLetters -/
def C_X8_judgeLetters_7 (N : Nat) (rec_7 : gI → gJ → Int32 → Int32 → Option (Int32 × gI × gJ)) (σ : gI) (τ : gJ) (x1 : Int32) (x2 : Int32) : Option (Int32 × gI × gJ) := if 12 ≤ x2 then (if x1 = (-1) then (some (σ 9 6, σ, τ)) else (some ((-1) - x1, σ, τ))) else (ck x2 12 fun j_3 => nm (σ 14 j_3) fun v_4 => if v_4 = (-1) then (nm (x2 + 1) fun v_6 => rec_7 σ τ x1 v_6) else (if x1 = (-1) then (nm (x2 + 1) fun v_8 => rec_7 σ τ v_4 v_8) else (if x1 ≤ v_4 then (nm (x2 + 1) fun v_10 => rec_7 σ τ x1 v_10) else (nm (x2 + 1) fun v_11 => rec_7 σ τ v_4 v_11))))
def H_X8_judgeLetters_7 (N : Nat) : Nat → gI → gJ → Int32 → Int32 → Option (Int32 × gI × gJ) := itn (fun rec_7 => C_X8_judgeLetters_7 N rec_7) (fun _ _ _ _ => none)
def B_X8_judgeLetters_0 (N : Nat) (σ : gI) (τ : gJ) : Option (Int32 × gI × gJ) := nm (σ 9 6) fun v_1 => H_X8_judgeLetters_7 N N σ τ (-1) v_1
set_option maxHeartbeats 4000000 in
set_option maxRecDepth 100000 in
theorem k_X8_judgeLetters_7 (l : Launch) (S : CallFix P9 m9 C9 cX8_judgeLetters 4 s av.toArray gx_G RX8) (hr : meth.sig.returnType = (some .int)) (hlk : meth.locks = false) (hK : gx_K E s) (N : Nat) (rec_7 : gI → gJ → Int32 → Int32 → Option (Int32 × gI × gJ)) (hrec_7 : ∀ (σ : gI) (τ : gJ) (x1 : Int32) (x2 : Int32) (r : Int32) (σ1 : gI) (τ1 : gJ) (H : Heap) (locs : List Loc) (ls : Array Slot), rec_7 σ τ x1 x2 = some (r, σ1, τ1) → gx_W gx_tb gx_tb.length E s σ τ H locs → lv_has ls 4 [(0, .ref (E.2.2 + 9)), (1, .int x1), (2, .int x2)] → W P9 l e9 (gx_rm 0) s m9 av.toArray below meth C9 H locs 0 0 (gq_Qi below av s E r σ1 τ1) (F0 m9 7 ls [])) (σ : gI) (τ : gJ) (x1 : Int32) (x2 : Int32) {r : Int32} {σ1 : gI} {τ1 : gJ} (h : C_X8_judgeLetters_7 N rec_7 σ τ x1 x2 = some (r, σ1, τ1)) {H : Heap} {locs : List Loc} {ls : Array Slot} (hw : gx_W gx_tb gx_tb.length E s σ τ H locs) (hl : lv_has ls 4 [(0, .ref (E.2.2 + 9)), (1, .int x1), (2, .int x2)]) : W P9 l e9 (gx_rm 0) s m9 av.toArray below meth C9 H locs 0 0 (gq_Qi below av s E r σ1 τ1) (F0 m9 7 ls []) := by
  have hx := S.1
  have hb := S.2.1
  unfold C_X8_judgeLetters_7 at h
  refine lv_iload_n hx hb dX8_judgeLetters_7 rfl (lv_at hl 2 rfl) ?_
  refine lv_bipush (v := 12) hx hb dX8_judgeLetters_8 (by decide) ?_
  refine lv_icmp_ge (tgt := 43) hx hb dX8_judgeLetters_10 (by decide) (fun c_1 => ?_) (fun c_1 => ?_)
  · rw [if_pos c_1] at h
    refine lv_iload_n hx hb dX8_judgeLetters_43 rfl (lv_at hl 1 rfl) ?_
    refine lv_iconst (v := (-1)) hx hb dX8_judgeLetters_44 (by decide) ?_
    refine lv_icmp_ne (tgt := 55) hx hb dX8_judgeLetters_45 (by decide) (fun c_2 => ?_) (fun c_2 => ?_)
    · rw [if_neg c_2] at h
      refine lv_iconst (v := (-1)) hx hb dX8_judgeLetters_55 (by decide) ?_
      refine lv_iload_n hx hb dX8_judgeLetters_56 rfl (lv_at hl 1 rfl) ?_
      refine lv_isub hx hb dX8_judgeLetters_57 ?_
      obtain ⟨rfl, rfl, rfl⟩ := sm_inj h
      exact gx_ri (post := gq_p ((-1) - x1) σ τ) (v := (-1) - x1) S hr hlk hw rfl dX8_judgeLetters_58 ⟨rfl, rfl, rfl⟩
    · rw [if_pos c_2] at h
      refine lv_aload_n hx hb dX8_judgeLetters_48 rfl (lv_at hl 0 rfl) ?_
      refine gx_get S hK hw t_9 cl_9 6 (by decide) rfl mw_154 rfl dX8_judgeLetters_49 ?_
      refine lv_goto (tgt := 58) hx hb dX8_judgeLetters_52 (by decide) ?_
      obtain ⟨rfl, rfl, rfl⟩ := sm_inj h
      exact gx_ri (post := gq_p (σ 9 6) σ τ) (v := σ 9 6) S hr hlk hw rfl dX8_judgeLetters_58 ⟨rfl, rfl, rfl⟩
  · rw [if_neg c_1] at h
    refine lv_aload_n hx hb dX8_judgeLetters_13 rfl (lv_at hl 0 rfl) ?_
    refine gx_getr (j := 14) S hK hw t_9 cl_9 4 (by decide) rfl mw_152 rfl dX8_judgeLetters_14 ?_
    refine lv_iload_n hx hb dX8_judgeLetters_17 rfl (lv_at hl 2 rfl) ?_
    obtain ⟨j_3, hj_3, hi_3, h⟩ := ck_some h
    refine gx_iald S hK hw t_14 j_3 hj_3 hi_3 dX8_judgeLetters_18 ?_
    refine lv_istore_n (lv' := [(3, .int (σ 14 j_3)), (0, .ref (E.2.2 + 9)), (1, .int x1), (2, .int x2)]) hx hb dX8_judgeLetters_19 rfl hl (by decide) rfl (fun ls hl => ?_)
    obtain ⟨v_4, e_4, h⟩ := nm_some h
    have hl : lv_has ls 4 [(3, .int v_4), (0, .ref (E.2.2 + 9)), (1, .int x1), (2, .int x2)] := by rw [e_4]; exact hl
    refine lv_iload_n hx hb dX8_judgeLetters_20 rfl (lv_at hl 0 rfl) ?_
    refine lv_iconst (v := (-1)) hx hb dX8_judgeLetters_21 (by decide) ?_
    refine lv_icmp_eq (tgt := 37) hx hb dX8_judgeLetters_22 (by decide) (fun c_5 => ?_) (fun c_5 => ?_)
    · rw [if_pos c_5] at h
      refine lv_iinc (v := x2 + 1) (lv' := [(2, .int (x2 + 1)), (3, .int v_4), (0, .ref (E.2.2 + 9)), (1, .int x1)]) hx hb dX8_judgeLetters_37 hl (k := 3) rfl rfl (by decide) rfl (fun ls hl => ?_)
      obtain ⟨v_6, e_6, h⟩ := nm_some h
      have hl : lv_has ls 4 [(2, .int v_6), (3, .int v_4), (0, .ref (E.2.2 + 9)), (1, .int x1)] := by rw [e_6]; exact hl
      refine lv_goto (tgt := 7) hx hb dX8_judgeLetters_40 (by decide) ?_
      exact hrec_7 σ τ x1 v_6 _ _ _ _ _ _ h hw (lv_sub hl [2, 3, 0] rfl)
    · rw [if_neg c_5] at h
      refine lv_iload_n hx hb dX8_judgeLetters_25 rfl (lv_at hl 2 rfl) ?_
      refine lv_iconst (v := (-1)) hx hb dX8_judgeLetters_26 (by decide) ?_
      refine lv_icmp_eq (tgt := 35) hx hb dX8_judgeLetters_27 (by decide) (fun c_7 => ?_) (fun c_7 => ?_)
      · rw [if_pos c_7] at h
        refine lv_iload_n hx hb dX8_judgeLetters_35 rfl (lv_at hl 0 rfl) ?_
        refine lv_istore_n (lv' := [(1, .int v_4), (3, .int v_4), (0, .ref (E.2.2 + 9)), (2, .int x2)]) hx hb dX8_judgeLetters_36 rfl hl (by decide) rfl (fun ls hl => ?_)
        refine lv_iinc (v := x2 + 1) (lv' := [(2, .int (x2 + 1)), (1, .int v_4), (3, .int v_4), (0, .ref (E.2.2 + 9))]) hx hb dX8_judgeLetters_37 hl (k := 3) rfl rfl (by decide) rfl (fun ls hl => ?_)
        obtain ⟨v_8, e_8, h⟩ := nm_some h
        have hl : lv_has ls 4 [(2, .int v_8), (1, .int v_4), (3, .int v_4), (0, .ref (E.2.2 + 9))] := by rw [e_8]; exact hl
        refine lv_goto (tgt := 7) hx hb dX8_judgeLetters_40 (by decide) ?_
        exact hrec_7 σ τ v_4 v_8 _ _ _ _ _ _ h hw (lv_sub hl [3, 1, 0] rfl)
      · rw [if_neg c_7] at h
        refine lv_iload_n hx hb dX8_judgeLetters_30 rfl (lv_at hl 0 rfl) ?_
        refine lv_iload_n hx hb dX8_judgeLetters_31 rfl (lv_at hl 2 rfl) ?_
        refine lv_icmp_ge (tgt := 37) hx hb dX8_judgeLetters_32 (by decide) (fun c_9 => ?_) (fun c_9 => ?_)
        · rw [if_pos c_9] at h
          refine lv_iinc (v := x2 + 1) (lv' := [(2, .int (x2 + 1)), (3, .int v_4), (0, .ref (E.2.2 + 9)), (1, .int x1)]) hx hb dX8_judgeLetters_37 hl (k := 3) rfl rfl (by decide) rfl (fun ls hl => ?_)
          obtain ⟨v_10, e_10, h⟩ := nm_some h
          have hl : lv_has ls 4 [(2, .int v_10), (3, .int v_4), (0, .ref (E.2.2 + 9)), (1, .int x1)] := by rw [e_10]; exact hl
          refine lv_goto (tgt := 7) hx hb dX8_judgeLetters_40 (by decide) ?_
          exact hrec_7 σ τ x1 v_10 _ _ _ _ _ _ h hw (lv_sub hl [2, 3, 0] rfl)
        · rw [if_neg c_9] at h
          refine lv_iload_n hx hb dX8_judgeLetters_35 rfl (lv_at hl 0 rfl) ?_
          refine lv_istore_n (lv' := [(1, .int v_4), (3, .int v_4), (0, .ref (E.2.2 + 9)), (2, .int x2)]) hx hb dX8_judgeLetters_36 rfl hl (by decide) rfl (fun ls hl => ?_)
          refine lv_iinc (v := x2 + 1) (lv' := [(2, .int (x2 + 1)), (1, .int v_4), (3, .int v_4), (0, .ref (E.2.2 + 9))]) hx hb dX8_judgeLetters_37 hl (k := 3) rfl rfl (by decide) rfl (fun ls hl => ?_)
          obtain ⟨v_11, e_11, h⟩ := nm_some h
          have hl : lv_has ls 4 [(2, .int v_11), (1, .int v_4), (3, .int v_4), (0, .ref (E.2.2 + 9))] := by rw [e_11]; exact hl
          refine lv_goto (tgt := 7) hx hb dX8_judgeLetters_40 (by decide) ?_
          exact hrec_7 σ τ v_4 v_11 _ _ _ _ _ _ h hw (lv_sub hl [3, 1, 0] rfl)
set_option maxHeartbeats 4000000 in
set_option maxRecDepth 100000 in
theorem h_X8_judgeLetters_7 (l : Launch) (S : CallFix P9 m9 C9 cX8_judgeLetters 4 s av.toArray gx_G RX8) (hr : meth.sig.returnType = (some .int)) (hlk : meth.locks = false) (hK : gx_K E s) (N : Nat) : ∀ (n : Nat) (σ : gI) (τ : gJ) (x1 : Int32) (x2 : Int32) (r : Int32) (σ1 : gI) (τ1 : gJ), H_X8_judgeLetters_7 N n σ τ x1 x2 = some (r, σ1, τ1) → ∀ (H : Heap) (locs : List Loc) (ls : Array Slot), gx_W gx_tb gx_tb.length E s σ τ H locs → lv_has ls 4 [(0, .ref (E.2.2 + 9)), (1, .int x1), (2, .int x2)] → W P9 l e9 (gx_rm 0) s m9 av.toArray below meth C9 H locs 0 0 (gq_Qi below av s E r σ1 τ1) (F0 m9 7 ls []) := by
  intro n
  induction n with
  | zero => intro σ τ x1 x2 r σ1 τ1 h; cases h
  | succ n ih =>
    intro σ τ x1 x2 r σ1 τ1 h H locs ls hw hl
    exact k_X8_judgeLetters_7 l S hr hlk hK N (H_X8_judgeLetters_7 N n) (fun σ τ x1 x2 r σ1 τ1 H locs ls h hw hl => ih σ τ x1 x2 r σ1 τ1 h H locs ls hw hl) σ τ x1 x2 h hw hl
set_option maxHeartbeats 4000000 in
set_option maxRecDepth 100000 in
theorem b_X8_judgeLetters_0 (l : Launch) (S : CallFix P9 m9 C9 cX8_judgeLetters 4 s av.toArray gx_G RX8) (hr : meth.sig.returnType = (some .int)) (hlk : meth.locks = false) (hK : gx_K E s) (N : Nat) (σ : gI) (τ : gJ) {r : Int32} {σ1 : gI} {τ1 : gJ} (h : B_X8_judgeLetters_0 N σ τ = some (r, σ1, τ1)) {H : Heap} {locs : List Loc} {ls : Array Slot} (hw : gx_W gx_tb gx_tb.length E s σ τ H locs) (hl : lv_has ls 4 [(0, .ref (E.2.2 + 9))]) : W P9 l e9 (gx_rm 0) s m9 av.toArray below meth C9 H locs 0 0 (gq_Qi below av s E r σ1 τ1) (F0 m9 0 ls []) := by
  have hx := S.1
  have hb := S.2.1
  unfold B_X8_judgeLetters_0 at h
  refine lv_iconst (v := (-1)) hx hb dX8_judgeLetters_0 (by decide) ?_
  refine lv_istore_n (lv' := [(1, .int (-1)), (0, .ref (E.2.2 + 9))]) hx hb dX8_judgeLetters_1 rfl hl (by decide) rfl (fun ls hl => ?_)
  refine lv_aload_n hx hb dX8_judgeLetters_2 rfl (lv_at hl 1 rfl) ?_
  refine gx_get S hK hw t_9 cl_9 6 (by decide) rfl mw_154 rfl dX8_judgeLetters_3 ?_
  refine lv_istore_n (lv' := [(2, .int (σ 9 6)), (1, .int (-1)), (0, .ref (E.2.2 + 9))]) hx hb dX8_judgeLetters_6 rfl hl (by decide) rfl (fun ls hl => ?_)
  obtain ⟨v_1, e_1, h⟩ := nm_some h
  have hl : lv_has ls 4 [(2, .int v_1), (1, .int (-1)), (0, .ref (E.2.2 + 9))] := by rw [e_1]; exact hl
  exact h_X8_judgeLetters_7 l S hr hlk hK N N σ τ (-1) v_1 _ _ _ h _ _ _ hw (lv_sub hl [2, 1, 0] rfl)
set_option maxHeartbeats 4000000 in
set_option maxRecDepth 100000 in
theorem c_X8_judgeLetters (l : Launch) {E : gE} (N : Nat) (σ : gI) (τ : gJ) {r : Int32} {σ1 : gI} {τ1 : gJ} (h : B_X8_judgeLetters_0 N σ τ = some (r, σ1, τ1)) : gx_Mi l yX8_judgeLetters cX8_judgeLetters 4 (some .int) 0 gx_tb E σ τ [.ref (E.2.2 + 9)] (gq_p r σ1 τ1) := by
  refine gx_bi (by decide +kernel) (Nat.le_of_ble_eq_true rfl) ?_
  intro P9 e9 s m9 below meth C9 S hr hlk hK hw ls hl
  have hl : lv_has ls 4 [(0, .ref (E.2.2 + 9))] := hl
  exact b_X8_judgeLetters_0 l S hr hlk hK N σ τ h hw hl
/-! X8_read -/
def C_X8_read_24 (N : Nat) (rec_24 : gI → gJ → Int32 → Int32 → Option (Int32 × gI × gJ)) (σ : gI) (τ : gJ) (x2 : Int32) (x3 : Int32) : Option (Int32 × gI × gJ) := if 12 ≤ x3 then (some ((-1) - x2, σ, τ)) else (bd (B_X8_readLine_0 N σ τ x2) fun r_2 σ_2 τ_2 => if 0 ≤ r_2 then (bd (B_X7_isOver_0 N σ_2 τ_2 r_2) fun r_4 σ_4 τ_4 => if r_4 = 0 then (bd (B_X7_hasSign_0 N σ_4 τ_4 r_2 59) fun r_6 σ_6 τ_6 => if r_6 = 0 then (some ((-1) - r_2, σ_6, τ_6)) else (nm (r_2 + 1) fun v_8 => nm (x3 + 1) fun v_9 => rec_24 σ_6 τ_6 v_8 v_9)) else (bd (B_X8_judgeLetters_0 N σ_4 τ_4) fun r_10 σ_10 τ_10 => some (r_10, σ_10, τ_10))) else (some (r_2, σ_2, τ_2)))
def H_X8_read_24 (N : Nat) : Nat → gI → gJ → Int32 → Int32 → Option (Int32 × gI × gJ) := itn (fun rec_24 => C_X8_read_24 N rec_24) (fun _ _ _ _ => none)
def B_X8_read_0 (N : Nat) (σ : gI) (τ : gJ) : Option (Int32 × gI × gJ) := bd (B_X8_clear_0 N σ τ) fun _ σ_1 τ_1 => bd (B_X7_showAtMost_0 N σ_1 τ_1 76) fun _ σ_2 τ_2 => bd (B_X7_isOver_0 N σ_2 τ_2 0) fun r_3 σ_3 τ_3 => if r_3 = 0 then (H_X8_read_24 N N σ_3 τ_3 0 0) else (some (0, σ_3, τ_3))
set_option maxHeartbeats 4000000 in
set_option maxRecDepth 100000 in
theorem k_X8_read_24 (l : Launch) (S : CallFix P9 m9 C9 cX8_read 5 s av.toArray gx_G RX8) (hr : meth.sig.returnType = (some .int)) (hlk : meth.locks = false) (hK : gx_K E s) (N : Nat) (rec_24 : gI → gJ → Int32 → Int32 → Option (Int32 × gI × gJ)) (hrec_24 : ∀ (σ : gI) (τ : gJ) (x2 : Int32) (x3 : Int32) (r : Int32) (σ1 : gI) (τ1 : gJ) (H : Heap) (locs : List Loc) (ls : Array Slot), rec_24 σ τ x2 x3 = some (r, σ1, τ1) → gx_W gx_tb gx_tb.length E s σ τ H locs → lv_has ls 5 [(0, .ref (E.2.2 + 9)), (1, .ref (E.2.2 + 1)), (2, .int x2), (3, .int x3)] → W P9 l e9 (gx_rm 6) s m9 av.toArray below meth C9 H locs 0 0 (gq_Qi below av s E r σ1 τ1) (F0 m9 24 ls [])) (σ : gI) (τ : gJ) (x2 : Int32) (x3 : Int32) {r : Int32} {σ1 : gI} {τ1 : gJ} (h : C_X8_read_24 N rec_24 σ τ x2 x3 = some (r, σ1, τ1)) {H : Heap} {locs : List Loc} {ls : Array Slot} (hw : gx_W gx_tb gx_tb.length E s σ τ H locs) (hl : lv_has ls 5 [(0, .ref (E.2.2 + 9)), (1, .ref (E.2.2 + 1)), (2, .int x2), (3, .int x3)]) : W P9 l e9 (gx_rm 6) s m9 av.toArray below meth C9 H locs 0 0 (gq_Qi below av s E r σ1 τ1) (F0 m9 24 ls []) := by
  have hx := S.1
  have hb := S.2.1
  unfold C_X8_read_24 at h
  refine lv_iload_n hx hb dX8_read_24 rfl (lv_at hl 3 rfl) ?_
  refine lv_bipush (v := 12) hx hb dX8_read_25 (by decide) ?_
  refine lv_icmp_ge (tgt := 87) hx hb dX8_read_27 (by decide) (fun c_1 => ?_) (fun c_1 => ?_)
  · rw [if_pos c_1] at h
    refine lv_iconst (v := (-1)) hx hb dX8_read_87 (by decide) ?_
    refine lv_iload_n hx hb dX8_read_88 rfl (lv_at hl 2 rfl) ?_
    refine lv_isub hx hb dX8_read_89 ?_
    obtain ⟨rfl, rfl, rfl⟩ := sm_inj h
    exact gx_ri (post := gq_p ((-1) - x2) σ τ) (v := (-1) - x2) S hr hlk hw rfl dX8_read_90 ⟨rfl, rfl, rfl⟩
  · rw [if_neg c_1] at h
    refine lv_aload_n hx hb dX8_read_30 rfl (lv_at hl 0 rfl) ?_
    refine lv_aload_n hx hb dX8_read_31 rfl (lv_at hl 1 rfl) ?_
    refine lv_iload_n hx hb dX8_read_32 rfl (lv_at hl 2 rfl) ?_
    obtain ⟨r_2, σ_2, τ_2, q_2, h⟩ := bd_some h
    refine gx_cVi (As := [.ref (E.2.2 + 1), .int x2]) (rest := []) S hK gx_ok hw (c_X8_readLine l (E := E) N σ τ x2 q_2) cw_X8_53 t_9 cl_9 ⟨Nat.le_of_ble_eq_true rfl, Nat.le_of_ble_eq_true rfl⟩ rfl hl.1 rfl (Nat.le_of_ble_eq_true rfl) ⟨Nat.le_of_ble_eq_true rfl, Nat.le_of_ble_eq_true rfl⟩ dX8_read_33 (fun r9 σ9 τ9 H locs hp hw => ?_)
    obtain ⟨rfl, rfl, rfl⟩ := hp
    refine lv_istore (lv' := [(4, .int r_2), (0, .ref (E.2.2 + 9)), (1, .ref (E.2.2 + 1)), (2, .int x2), (3, .int x3)]) hx hb dX8_read_36 hl (by decide) rfl (fun ls hl => ?_)
    refine lv_iload hx hb dX8_read_38 (lv_at hl 0 rfl) ?_
    refine lv_if_ge (tgt := 46) hx hb dX8_read_40 (by decide) (fun c_3 => ?_) (fun c_3 => ?_)
    · rw [if_pos c_3] at h
      refine lv_aload_n hx hb dX8_read_46 rfl (lv_at hl 2 rfl) ?_
      refine lv_iload hx hb dX8_read_47 (lv_at hl 0 rfl) ?_
      obtain ⟨r_4, σ_4, τ_4, q_4, h⟩ := bd_some h
      refine gx_cVi (As := [.int r_2]) (rest := []) S hK gx_ok hw (c_X7_isOver l (E := E) N σ_2 τ_2 r_2 q_4) cw_X8_49 t_1 cl_8 ⟨Nat.le_of_ble_eq_true rfl, Nat.le_of_ble_eq_true rfl⟩ rfl hl.1 rfl (Nat.le_of_ble_eq_true rfl) ⟨Nat.le_of_ble_eq_true rfl, Nat.le_of_ble_eq_true rfl⟩ dX8_read_49 (fun r9 σ9 τ9 H locs hp hw => ?_)
      obtain ⟨rfl, rfl, rfl⟩ := hp
      refine lv_if_eq (tgt := 60) hx hb dX8_read_52 (by decide) (fun c_5 => ?_) (fun c_5 => ?_)
      · rw [if_pos c_5] at h
        refine lv_aload_n hx hb dX8_read_60 rfl (lv_at hl 2 rfl) ?_
        refine lv_iload hx hb dX8_read_61 (lv_at hl 0 rfl) ?_
        refine lv_bipush (v := 59) hx hb dX8_read_63 (by decide) ?_
        obtain ⟨r_6, σ_6, τ_6, q_6, h⟩ := bd_some h
        refine gx_cVi (As := [.int r_2, .int 59]) (rest := []) S hK gx_ok hw (c_X7_hasSign l (E := E) N σ_4 τ_4 r_2 59 q_6) cw_X8_61 t_1 cl_8 ⟨Nat.le_of_ble_eq_true rfl, Nat.le_of_ble_eq_true rfl⟩ rfl hl.1 rfl (Nat.le_of_ble_eq_true rfl) ⟨Nat.le_of_ble_eq_true rfl, Nat.le_of_ble_eq_true rfl⟩ dX8_read_65 (fun r9 σ9 τ9 H locs hp hw => ?_)
        obtain ⟨rfl, rfl, rfl⟩ := hp
        refine lv_if_ne (tgt := 76) hx hb dX8_read_68 (by decide) (fun c_7 => ?_) (fun c_7 => ?_)
        · rw [if_neg c_7] at h
          refine lv_iload hx hb dX8_read_76 (lv_at hl 0 rfl) ?_
          refine lv_iconst (v := 1) hx hb dX8_read_78 (by decide) ?_
          refine lv_iadd hx hb dX8_read_79 ?_
          refine lv_istore_n (lv' := [(2, .int (r_2 + 1)), (4, .int r_2), (0, .ref (E.2.2 + 9)), (1, .ref (E.2.2 + 1)), (3, .int x3)]) hx hb dX8_read_80 rfl hl (by decide) rfl (fun ls hl => ?_)
          obtain ⟨v_8, e_8, h⟩ := nm_some h
          have hl : lv_has ls 5 [(2, .int v_8), (4, .int r_2), (0, .ref (E.2.2 + 9)), (1, .ref (E.2.2 + 1)), (3, .int x3)] := by rw [e_8]; exact hl
          refine lv_iinc (v := x3 + 1) (lv' := [(3, .int (x3 + 1)), (2, .int v_8), (4, .int r_2), (0, .ref (E.2.2 + 9)), (1, .ref (E.2.2 + 1))]) hx hb dX8_read_81 hl (k := 4) rfl rfl (by decide) rfl (fun ls hl => ?_)
          obtain ⟨v_9, e_9, h⟩ := nm_some h
          have hl : lv_has ls 5 [(3, .int v_9), (2, .int v_8), (4, .int r_2), (0, .ref (E.2.2 + 9)), (1, .ref (E.2.2 + 1))] := by rw [e_9]; exact hl
          refine lv_goto (tgt := 24) hx hb dX8_read_84 (by decide) ?_
          exact hrec_24 σ_6 τ_6 v_8 v_9 _ _ _ _ _ _ h hw (lv_sub hl [3, 4, 1, 0] rfl)
        · rw [if_pos c_7] at h
          refine lv_iconst (v := (-1)) hx hb dX8_read_71 (by decide) ?_
          refine lv_iload hx hb dX8_read_72 (lv_at hl 0 rfl) ?_
          refine lv_isub hx hb dX8_read_74 ?_
          obtain ⟨rfl, rfl, rfl⟩ := sm_inj h
          exact gx_ri (post := gq_p ((-1) - r_2) σ_6 τ_6) (v := (-1) - r_2) S hr hlk hw rfl dX8_read_75 ⟨rfl, rfl, rfl⟩
      · rw [if_neg c_5] at h
        refine lv_aload_n hx hb dX8_read_55 rfl (lv_at hl 1 rfl) ?_
        obtain ⟨r_10, σ_10, τ_10, q_10, h⟩ := bd_some h
        refine gx_cVi (As := []) (rest := []) S hK gx_ok hw (c_X8_judgeLetters l (E := E) N σ_4 τ_4 q_10) cw_X8_57 t_9 cl_9 ⟨Nat.le_of_ble_eq_true rfl, Nat.le_of_ble_eq_true rfl⟩ rfl hl.1 rfl (Nat.le_of_ble_eq_true rfl) ⟨Nat.le_of_ble_eq_true rfl, Nat.le_of_ble_eq_true rfl⟩ dX8_read_56 (fun r9 σ9 τ9 H locs hp hw => ?_)
        obtain ⟨rfl, rfl, rfl⟩ := hp
        obtain ⟨rfl, rfl, rfl⟩ := sm_inj h
        exact gx_ri (post := gq_p r_10 σ_10 τ_10) (v := r_10) S hr hlk hw rfl dX8_read_59 ⟨rfl, rfl, rfl⟩
    · rw [if_neg c_3] at h
      refine lv_iload hx hb dX8_read_43 (lv_at hl 0 rfl) ?_
      obtain ⟨rfl, rfl, rfl⟩ := sm_inj h
      exact gx_ri (post := gq_p r_2 σ_2 τ_2) (v := r_2) S hr hlk hw rfl dX8_read_45 ⟨rfl, rfl, rfl⟩
set_option maxHeartbeats 4000000 in
set_option maxRecDepth 100000 in
theorem h_X8_read_24 (l : Launch) (S : CallFix P9 m9 C9 cX8_read 5 s av.toArray gx_G RX8) (hr : meth.sig.returnType = (some .int)) (hlk : meth.locks = false) (hK : gx_K E s) (N : Nat) : ∀ (n : Nat) (σ : gI) (τ : gJ) (x2 : Int32) (x3 : Int32) (r : Int32) (σ1 : gI) (τ1 : gJ), H_X8_read_24 N n σ τ x2 x3 = some (r, σ1, τ1) → ∀ (H : Heap) (locs : List Loc) (ls : Array Slot), gx_W gx_tb gx_tb.length E s σ τ H locs → lv_has ls 5 [(0, .ref (E.2.2 + 9)), (1, .ref (E.2.2 + 1)), (2, .int x2), (3, .int x3)] → W P9 l e9 (gx_rm 6) s m9 av.toArray below meth C9 H locs 0 0 (gq_Qi below av s E r σ1 τ1) (F0 m9 24 ls []) := by
  intro n
  induction n with
  | zero => intro σ τ x2 x3 r σ1 τ1 h; cases h
  | succ n ih =>
    intro σ τ x2 x3 r σ1 τ1 h H locs ls hw hl
    exact k_X8_read_24 l S hr hlk hK N (H_X8_read_24 N n) (fun σ τ x2 x3 r σ1 τ1 H locs ls h hw hl => ih σ τ x2 x3 r σ1 τ1 h H locs ls hw hl) σ τ x2 x3 h hw hl
set_option maxHeartbeats 4000000 in
set_option maxRecDepth 100000 in
theorem b_X8_read_0 (l : Launch) (S : CallFix P9 m9 C9 cX8_read 5 s av.toArray gx_G RX8) (hr : meth.sig.returnType = (some .int)) (hlk : meth.locks = false) (hK : gx_K E s) (N : Nat) (σ : gI) (τ : gJ) {r : Int32} {σ1 : gI} {τ1 : gJ} (h : B_X8_read_0 N σ τ = some (r, σ1, τ1)) {H : Heap} {locs : List Loc} {ls : Array Slot} (hw : gx_W gx_tb gx_tb.length E s σ τ H locs) (hl : lv_has ls 5 [(0, .ref (E.2.2 + 9)), (1, .ref (E.2.2 + 1))]) : W P9 l e9 (gx_rm 6) s m9 av.toArray below meth C9 H locs 0 0 (gq_Qi below av s E r σ1 τ1) (F0 m9 0 ls []) := by
  have hx := S.1
  have hb := S.2.1
  unfold B_X8_read_0 at h
  refine lv_aload_n hx hb dX8_read_0 rfl (lv_at hl 0 rfl) ?_
  obtain ⟨u_1, σ_1, τ_1, q_1, h⟩ := bd_some h
  refine gx_cVv (As := []) (rest := []) S hK gx_ok hw (c_X8_clear l (E := E) N σ τ q_1) cw_X8_40 t_9 cl_9 ⟨Nat.le_of_ble_eq_true rfl, Nat.le_of_ble_eq_true rfl⟩ rfl hl.1 rfl (Nat.le_of_ble_eq_true rfl) ⟨Nat.le_of_ble_eq_true rfl, Nat.le_of_ble_eq_true rfl⟩ dX8_read_1 (fun σ9 τ9 H locs hp hw => ?_)
  obtain ⟨rfl, rfl⟩ := hp
  refine lv_aload_n hx hb dX8_read_4 rfl (lv_at hl 1 rfl) ?_
  refine lv_bipush (v := 76) hx hb dX8_read_5 (by decide) ?_
  obtain ⟨u_2, σ_2, τ_2, q_2, h⟩ := bd_some h
  refine gx_cVv (As := [.int 76]) (rest := []) S hK gx_ok hw (c_X7_showAtMost l (E := E) N σ_1 τ_1 76 q_2) cw_X8_43 t_1 cl_8 ⟨Nat.le_of_ble_eq_true rfl, Nat.le_of_ble_eq_true rfl⟩ rfl hl.1 rfl (Nat.le_of_ble_eq_true rfl) ⟨Nat.le_of_ble_eq_true rfl, Nat.le_of_ble_eq_true rfl⟩ dX8_read_7 (fun σ9 τ9 H locs hp hw => ?_)
  obtain ⟨rfl, rfl⟩ := hp
  refine lv_aload_n hx hb dX8_read_10 rfl (lv_at hl 1 rfl) ?_
  refine lv_iconst (v := 0) hx hb dX8_read_11 (by decide) ?_
  obtain ⟨r_3, σ_3, τ_3, q_3, h⟩ := bd_some h
  refine gx_cVi (As := [.int 0]) (rest := []) S hK gx_ok hw (c_X7_isOver l (E := E) N σ_2 τ_2 0 q_3) cw_X8_49 t_1 cl_8 ⟨Nat.le_of_ble_eq_true rfl, Nat.le_of_ble_eq_true rfl⟩ rfl hl.1 rfl (Nat.le_of_ble_eq_true rfl) ⟨Nat.le_of_ble_eq_true rfl, Nat.le_of_ble_eq_true rfl⟩ dX8_read_12 (fun r9 σ9 τ9 H locs hp hw => ?_)
  obtain ⟨rfl, rfl, rfl⟩ := hp
  refine lv_if_eq (tgt := 20) hx hb dX8_read_15 (by decide) (fun c_4 => ?_) (fun c_4 => ?_)
  · rw [if_pos c_4] at h
    refine lv_iconst (v := 0) hx hb dX8_read_20 (by decide) ?_
    refine lv_istore_n (lv' := [(2, .int 0), (0, .ref (E.2.2 + 9)), (1, .ref (E.2.2 + 1))]) hx hb dX8_read_21 rfl hl (by decide) rfl (fun ls hl => ?_)
    refine lv_iconst (v := 0) hx hb dX8_read_22 (by decide) ?_
    refine lv_istore_n (lv' := [(3, .int 0), (2, .int 0), (0, .ref (E.2.2 + 9)), (1, .ref (E.2.2 + 1))]) hx hb dX8_read_23 rfl hl (by decide) rfl (fun ls hl => ?_)
    exact h_X8_read_24 l S hr hlk hK N N σ_3 τ_3 0 0 _ _ _ h _ _ _ hw (lv_sub hl [2, 3, 1, 0] rfl)
  · rw [if_neg c_4] at h
    refine lv_iconst (v := 0) hx hb dX8_read_18 (by decide) ?_
    obtain ⟨rfl, rfl, rfl⟩ := sm_inj h
    exact gx_ri (post := gq_p 0 σ_3 τ_3) (v := 0) S hr hlk hw rfl dX8_read_19 ⟨rfl, rfl, rfl⟩
set_option maxHeartbeats 4000000 in
set_option maxRecDepth 100000 in
theorem c_X8_read (l : Launch) {E : gE} (N : Nat) (σ : gI) (τ : gJ) {r : Int32} {σ1 : gI} {τ1 : gJ} (h : B_X8_read_0 N σ τ = some (r, σ1, τ1)) : gx_Mi l yX8_read cX8_read 5 (some .int) 6 gx_tb E σ τ [.ref (E.2.2 + 9), .ref (E.2.2 + 1)] (gq_p r σ1 τ1) := by
  refine gx_bi (by decide +kernel) (Nat.le_of_ble_eq_true rfl) ?_
  intro P9 e9 s m9 below meth C9 S hr hlk hK hw ls hl
  have hl : lv_has ls 5 [(0, .ref (E.2.2 + 9)), (1, .ref (E.2.2 + 1))] := hl
  exact b_X8_read_0 l S hr hlk hK N σ τ h hw hl
/-! X8_copy -/
def C_X8_copy_34 (N : Nat) (rec_34 : gI → gJ → Int32 → Option (Unit × gI × gJ)) (σ : gI) (τ : gJ) (x2 : Int32) : Option (Unit × gI × gJ) := if 12 ≤ x2 then (some ((), σ, τ)) else (ck x2 12 fun j_2 => nm (up2 σ 4 j_2 (σ 10 j_2)) fun σ_3 => nm (up2 σ_3 5 j_2 (σ_3 11 j_2)) fun σ_4 => nm (up2 σ_4 6 j_2 (σ_4 12 j_2)) fun σ_5 => nm (up2 σ_5 7 j_2 (σ_5 13 j_2)) fun σ_6 => nm (x2 + 1) fun v_7 => rec_34 σ_6 τ v_7)
def H_X8_copy_34 (N : Nat) : Nat → gI → gJ → Int32 → Option (Unit × gI × gJ) := itn (fun rec_34 => C_X8_copy_34 N rec_34) (fun _ _ _ => none)
def B_X8_copy_0 (N : Nat) (σ : gI) (τ : gJ) : Option (Unit × gI × gJ) := nm (up2 σ 3 6 (σ 9 6)) fun σ_1 => nm (up2 σ_1 3 7 (σ_1 9 7)) fun σ_2 => nm (up2 σ_2 3 5 (σ_2 9 5)) fun σ_3 => nm (up2 σ_3 3 8 (σ_3 9 8)) fun σ_4 => H_X8_copy_34 N N σ_4 τ 0
set_option maxHeartbeats 4000000 in
set_option maxRecDepth 100000 in
theorem k_X8_copy_34 (l : Launch) (S : CallFix P9 m9 C9 cX8_copy 3 s av.toArray gx_G RX8) (hr : meth.sig.returnType = none) (hlk : meth.locks = false) (hK : gx_K E s) (N : Nat) (rec_34 : gI → gJ → Int32 → Option (Unit × gI × gJ)) (hrec_34 : ∀ (σ : gI) (τ : gJ) (x2 : Int32) (r : Unit) (σ1 : gI) (τ1 : gJ) (H : Heap) (locs : List Loc) (ls : Array Slot), rec_34 σ τ x2 = some (r, σ1, τ1) → gx_W gx_tb gx_tb.length E s σ τ H locs → lv_has ls 3 [(0, .ref (E.2.2 + 3)), (1, .ref (E.2.2 + 9)), (2, .int x2)] → W P9 l e9 (gx_rm 0) s m9 av.toArray below meth C9 H locs 0 0 (gq_Qv below av s E σ1 τ1) (F0 m9 34 ls [])) (σ : gI) (τ : gJ) (x2 : Int32) {r : Unit} {σ1 : gI} {τ1 : gJ} (h : C_X8_copy_34 N rec_34 σ τ x2 = some (r, σ1, τ1)) {H : Heap} {locs : List Loc} {ls : Array Slot} (hw : gx_W gx_tb gx_tb.length E s σ τ H locs) (hl : lv_has ls 3 [(0, .ref (E.2.2 + 3)), (1, .ref (E.2.2 + 9)), (2, .int x2)]) : W P9 l e9 (gx_rm 0) s m9 av.toArray below meth C9 H locs 0 0 (gq_Qv below av s E σ1 τ1) (F0 m9 34 ls []) := by
  have hx := S.1
  have hb := S.2.1
  unfold C_X8_copy_34 at h
  refine lv_iload_n hx hb dX8_copy_34 rfl (lv_at hl 2 rfl) ?_
  refine lv_bipush (v := 12) hx hb dX8_copy_35 (by decide) ?_
  refine lv_icmp_ge (tgt := 94) hx hb dX8_copy_37 (by decide) (fun c_1 => ?_) (fun c_1 => ?_)
  · rw [if_pos c_1] at h
    obtain ⟨-, rfl, rfl⟩ := sm_inj h
    exact gx_rv (post := gq_v σ τ) S hr hlk hw dX8_copy_94 ⟨rfl, rfl⟩
  · rw [if_neg c_1] at h
    refine lv_aload_n hx hb dX8_copy_40 rfl (lv_at hl 0 rfl) ?_
    refine gx_getr (j := 4) S hK hw t_3 cl_9 0 (by decide) rfl mw_148 rfl dX8_copy_41 ?_
    refine lv_iload_n hx hb dX8_copy_44 rfl (lv_at hl 2 rfl) ?_
    refine lv_aload_n hx hb dX8_copy_45 rfl (lv_at hl 1 rfl) ?_
    refine gx_getr (j := 10) S hK hw t_9 cl_9 0 (by decide) rfl mw_148 rfl dX8_copy_46 ?_
    refine lv_iload_n hx hb dX8_copy_49 rfl (lv_at hl 2 rfl) ?_
    obtain ⟨j_2, hj_2, hi_2, h⟩ := ck_some h
    refine gx_iald S hK hw t_10 j_2 hj_2 hi_2 dX8_copy_50 ?_
    refine gx_iast S hK gx_ok hw t_4 j_2 hj_2 hi_2 dX8_copy_51 (fun H locs hw => ?_)
    obtain ⟨σ_3, e_3, h⟩ := nm_some h
    rw [← e_3] at hw
    refine lv_aload_n hx hb dX8_copy_52 rfl (lv_at hl 0 rfl) ?_
    refine gx_getr (j := 5) S hK hw t_3 cl_9 1 (by decide) rfl mw_149 rfl dX8_copy_53 ?_
    refine lv_iload_n hx hb dX8_copy_56 rfl (lv_at hl 2 rfl) ?_
    refine lv_aload_n hx hb dX8_copy_57 rfl (lv_at hl 1 rfl) ?_
    refine gx_getr (j := 11) S hK hw t_9 cl_9 1 (by decide) rfl mw_149 rfl dX8_copy_58 ?_
    refine lv_iload_n hx hb dX8_copy_61 rfl (lv_at hl 2 rfl) ?_
    refine gx_iald S hK hw t_11 j_2 hj_2 hi_2 dX8_copy_62 ?_
    refine gx_iast S hK gx_ok hw t_5 j_2 hj_2 hi_2 dX8_copy_63 (fun H locs hw => ?_)
    obtain ⟨σ_4, e_4, h⟩ := nm_some h
    rw [← e_4] at hw
    refine lv_aload_n hx hb dX8_copy_64 rfl (lv_at hl 0 rfl) ?_
    refine gx_getr (j := 6) S hK hw t_3 cl_9 2 (by decide) rfl mw_150 rfl dX8_copy_65 ?_
    refine lv_iload_n hx hb dX8_copy_68 rfl (lv_at hl 2 rfl) ?_
    refine lv_aload_n hx hb dX8_copy_69 rfl (lv_at hl 1 rfl) ?_
    refine gx_getr (j := 12) S hK hw t_9 cl_9 2 (by decide) rfl mw_150 rfl dX8_copy_70 ?_
    refine lv_iload_n hx hb dX8_copy_73 rfl (lv_at hl 2 rfl) ?_
    refine gx_iald S hK hw t_12 j_2 hj_2 hi_2 dX8_copy_74 ?_
    refine gx_iast S hK gx_ok hw t_6 j_2 hj_2 hi_2 dX8_copy_75 (fun H locs hw => ?_)
    obtain ⟨σ_5, e_5, h⟩ := nm_some h
    rw [← e_5] at hw
    refine lv_aload_n hx hb dX8_copy_76 rfl (lv_at hl 0 rfl) ?_
    refine gx_getr (j := 7) S hK hw t_3 cl_9 3 (by decide) rfl mw_151 rfl dX8_copy_77 ?_
    refine lv_iload_n hx hb dX8_copy_80 rfl (lv_at hl 2 rfl) ?_
    refine lv_aload_n hx hb dX8_copy_81 rfl (lv_at hl 1 rfl) ?_
    refine gx_getr (j := 13) S hK hw t_9 cl_9 3 (by decide) rfl mw_151 rfl dX8_copy_82 ?_
    refine lv_iload_n hx hb dX8_copy_85 rfl (lv_at hl 2 rfl) ?_
    refine gx_iald S hK hw t_13 j_2 hj_2 hi_2 dX8_copy_86 ?_
    refine gx_iast S hK gx_ok hw t_7 j_2 hj_2 hi_2 dX8_copy_87 (fun H locs hw => ?_)
    obtain ⟨σ_6, e_6, h⟩ := nm_some h
    rw [← e_6] at hw
    refine lv_iinc (v := x2 + 1) (lv' := [(2, .int (x2 + 1)), (0, .ref (E.2.2 + 3)), (1, .ref (E.2.2 + 9))]) hx hb dX8_copy_88 hl (k := 2) rfl rfl (by decide) rfl (fun ls hl => ?_)
    obtain ⟨v_7, e_7, h⟩ := nm_some h
    have hl : lv_has ls 3 [(2, .int v_7), (0, .ref (E.2.2 + 3)), (1, .ref (E.2.2 + 9))] := by rw [e_7]; exact hl
    refine lv_goto (tgt := 34) hx hb dX8_copy_91 (by decide) ?_
    exact hrec_34 σ_6 τ v_7 _ _ _ _ _ _ h hw (lv_sub hl [1, 2, 0] rfl)
set_option maxHeartbeats 4000000 in
set_option maxRecDepth 100000 in
theorem h_X8_copy_34 (l : Launch) (S : CallFix P9 m9 C9 cX8_copy 3 s av.toArray gx_G RX8) (hr : meth.sig.returnType = none) (hlk : meth.locks = false) (hK : gx_K E s) (N : Nat) : ∀ (n : Nat) (σ : gI) (τ : gJ) (x2 : Int32) (r : Unit) (σ1 : gI) (τ1 : gJ), H_X8_copy_34 N n σ τ x2 = some (r, σ1, τ1) → ∀ (H : Heap) (locs : List Loc) (ls : Array Slot), gx_W gx_tb gx_tb.length E s σ τ H locs → lv_has ls 3 [(0, .ref (E.2.2 + 3)), (1, .ref (E.2.2 + 9)), (2, .int x2)] → W P9 l e9 (gx_rm 0) s m9 av.toArray below meth C9 H locs 0 0 (gq_Qv below av s E σ1 τ1) (F0 m9 34 ls []) := by
  intro n
  induction n with
  | zero => intro σ τ x2 r σ1 τ1 h; cases h
  | succ n ih =>
    intro σ τ x2 r σ1 τ1 h H locs ls hw hl
    exact k_X8_copy_34 l S hr hlk hK N (H_X8_copy_34 N n) (fun σ τ x2 r σ1 τ1 H locs ls h hw hl => ih σ τ x2 r σ1 τ1 h H locs ls hw hl) σ τ x2 h hw hl
set_option maxHeartbeats 4000000 in
set_option maxRecDepth 100000 in
theorem b_X8_copy_0 (l : Launch) (S : CallFix P9 m9 C9 cX8_copy 3 s av.toArray gx_G RX8) (hr : meth.sig.returnType = none) (hlk : meth.locks = false) (hK : gx_K E s) (N : Nat) (σ : gI) (τ : gJ) {r : Unit} {σ1 : gI} {τ1 : gJ} (h : B_X8_copy_0 N σ τ = some (r, σ1, τ1)) {H : Heap} {locs : List Loc} {ls : Array Slot} (hw : gx_W gx_tb gx_tb.length E s σ τ H locs) (hl : lv_has ls 3 [(0, .ref (E.2.2 + 3)), (1, .ref (E.2.2 + 9))]) : W P9 l e9 (gx_rm 0) s m9 av.toArray below meth C9 H locs 0 0 (gq_Qv below av s E σ1 τ1) (F0 m9 0 ls []) := by
  have hx := S.1
  have hb := S.2.1
  unfold B_X8_copy_0 at h
  refine lv_aload_n hx hb dX8_copy_0 rfl (lv_at hl 0 rfl) ?_
  refine lv_aload_n hx hb dX8_copy_1 rfl (lv_at hl 1 rfl) ?_
  refine gx_get S hK hw t_9 cl_9 6 (by decide) rfl mw_154 rfl dX8_copy_2 ?_
  refine gx_put S hK gx_ok hw t_3 cl_9 6 (by decide) rfl mw_154 rfl rfl (ty := .int) (v := σ 9 6) (by decide +kernel) rfl rfl dX8_copy_5 (fun H locs hw => ?_)
  obtain ⟨σ_1, e_1, h⟩ := nm_some h
  rw [← e_1] at hw
  refine lv_aload_n hx hb dX8_copy_8 rfl (lv_at hl 0 rfl) ?_
  refine lv_aload_n hx hb dX8_copy_9 rfl (lv_at hl 1 rfl) ?_
  refine gx_get S hK hw t_9 cl_9 7 (by decide) rfl mw_156 rfl dX8_copy_10 ?_
  refine gx_put S hK gx_ok hw t_3 cl_9 7 (by decide) rfl mw_156 rfl rfl (ty := .int) (v := σ_1 9 7) (by decide +kernel) rfl rfl dX8_copy_13 (fun H locs hw => ?_)
  obtain ⟨σ_2, e_2, h⟩ := nm_some h
  rw [← e_2] at hw
  refine lv_aload_n hx hb dX8_copy_16 rfl (lv_at hl 0 rfl) ?_
  refine lv_aload_n hx hb dX8_copy_17 rfl (lv_at hl 1 rfl) ?_
  refine gx_get S hK hw t_9 cl_9 5 (by decide) rfl mw_153 rfl dX8_copy_18 ?_
  refine gx_put S hK gx_ok hw t_3 cl_9 5 (by decide) rfl mw_153 rfl rfl (ty := .int) (v := σ_2 9 5) (by decide +kernel) rfl rfl dX8_copy_21 (fun H locs hw => ?_)
  obtain ⟨σ_3, e_3, h⟩ := nm_some h
  rw [← e_3] at hw
  refine lv_aload_n hx hb dX8_copy_24 rfl (lv_at hl 0 rfl) ?_
  refine lv_aload_n hx hb dX8_copy_25 rfl (lv_at hl 1 rfl) ?_
  refine gx_get S hK hw t_9 cl_9 8 (by decide) rfl mw_159 rfl dX8_copy_26 ?_
  refine gx_put S hK gx_ok hw t_3 cl_9 8 (by decide) rfl mw_159 rfl rfl (ty := .int) (v := σ_3 9 8) (by decide +kernel) rfl rfl dX8_copy_29 (fun H locs hw => ?_)
  obtain ⟨σ_4, e_4, h⟩ := nm_some h
  rw [← e_4] at hw
  refine lv_iconst (v := 0) hx hb dX8_copy_32 (by decide) ?_
  refine lv_istore_n (lv' := [(2, .int 0), (0, .ref (E.2.2 + 3)), (1, .ref (E.2.2 + 9))]) hx hb dX8_copy_33 rfl hl (by decide) rfl (fun ls hl => ?_)
  exact h_X8_copy_34 l S hr hlk hK N N σ_4 τ 0 _ _ _ h _ _ _ hw (lv_sub hl [1, 2, 0] rfl)
set_option maxHeartbeats 4000000 in
set_option maxRecDepth 100000 in
theorem c_X8_copy (l : Launch) {E : gE} (N : Nat) (σ : gI) (τ : gJ) {r : Unit} {σ1 : gI} {τ1 : gJ} (h : B_X8_copy_0 N σ τ = some (r, σ1, τ1)) : gx_Mv l yX8_copy cX8_copy 3 none 0 gx_tb E σ τ [.ref (E.2.2 + 3), .ref (E.2.2 + 9)] (gq_v σ1 τ1) := by
  refine gx_bv (by decide +kernel) (Nat.le_of_ble_eq_true rfl) ?_
  intro P9 e9 s m9 below meth C9 S hr hlk hK hw ls hl
  have hl : lv_has ls 3 [(0, .ref (E.2.2 + 3)), (1, .ref (E.2.2 + 9))] := hl
  exact b_X8_copy_0 l S hr hlk hK N σ τ h hw hl
/-! X11_town -/
def B_X11_town_0 (N : Nat) (σ : gI) (τ : gJ) : Option (Int32 × gI × gJ) := bd (B_X8_read_0 N σ τ) fun r_1 σ_1 τ_1 => bd (B_X7_cut_0 N σ_1 τ_1 0) fun r_2 σ_2 τ_2 => if 0 ≤ r_1 then (bd (B_X8_copy_0 N σ_2 τ_2) fun _ σ_4 τ_4 => bd (B_X6_clear_0 N 30 σ_4 τ_4) fun _ σ_5 τ_5 => bd (B_X3_clear_0 N σ_5 τ_5) fun _ σ_6 τ_6 => nm (up2 σ_6 152 3 0) fun σ_7 => nm (up2 σ_7 0 11 0) fun σ_8 => some (r_1, σ_8, τ_6)) else (some (r_1, σ_2, τ_2))
set_option maxHeartbeats 4000000 in
set_option maxRecDepth 100000 in
theorem b_X11_town_0 (l : Launch) (S : CallFix P9 m9 C9 cX11_town 2 s av.toArray gx_G RX11) (hr : meth.sig.returnType = (some .int)) (hlk : meth.locks = false) (hK : gx_K E s) (N : Nat) (σ : gI) (τ : gJ) {r : Int32} {σ1 : gI} {τ1 : gJ} (h : B_X11_town_0 N σ τ = some (r, σ1, τ1)) {H : Heap} {locs : List Loc} {ls : Array Slot} (hw : gx_W gx_tb gx_tb.length E s σ τ H locs) (hl : lv_has ls 2 [(0, .ref (E.2.2 + 0))]) : W P9 l e9 (gx_rm 7) s m9 av.toArray below meth C9 H locs 0 0 (gq_Qi below av s E r σ1 τ1) (F0 m9 0 ls []) := by
  have hx := S.1
  have hb := S.2.1
  unfold B_X11_town_0 at h
  refine lv_aload_n hx hb dX11_town_0 rfl (lv_at hl 0 rfl) ?_
  refine gx_getr (j := 9) S hK hw t_0 cl_12 2 (by decide) rfl mw_449 rfl dX11_town_1 ?_
  refine lv_aload_n hx hb dX11_town_4 rfl (lv_at hl 0 rfl) ?_
  refine gx_getr (j := 1) S hK hw t_0 cl_12 0 (by decide) rfl mw_447 rfl dX11_town_5 ?_
  obtain ⟨r_1, σ_1, τ_1, q_1, h⟩ := bd_some h
  refine gx_cVi (As := [.ref (E.2.2 + 1)]) (rest := []) S hK gx_ok hw (c_X8_read l (E := E) N σ τ q_1) cw_X11_114 t_9 cl_9 ⟨Nat.le_of_ble_eq_true rfl, Nat.le_of_ble_eq_true rfl⟩ rfl hl.1 rfl (Nat.le_of_ble_eq_true rfl) ⟨Nat.le_of_ble_eq_true rfl, Nat.le_of_ble_eq_true rfl⟩ dX11_town_8 (fun r9 σ9 τ9 H locs hp hw => ?_)
  obtain ⟨rfl, rfl, rfl⟩ := hp
  refine lv_istore_n (lv' := [(1, .int r_1), (0, .ref (E.2.2 + 0))]) hx hb dX11_town_11 rfl hl (by decide) rfl (fun ls hl => ?_)
  refine lv_aload_n hx hb dX11_town_12 rfl (lv_at hl 1 rfl) ?_
  refine gx_getr (j := 1) S hK hw t_0 cl_12 0 (by decide) rfl mw_447 rfl dX11_town_13 ?_
  refine lv_iconst (v := 0) hx hb dX11_town_16 (by decide) ?_
  obtain ⟨r_2, σ_2, τ_2, q_2, h⟩ := bd_some h
  refine gx_cVi (As := [.int 0]) (rest := []) S hK gx_ok hw (c_X7_cut l (E := E) N σ_1 τ_1 0 q_2) cw_X11_111 t_1 cl_8 ⟨Nat.le_of_ble_eq_true rfl, Nat.le_of_ble_eq_true rfl⟩ rfl hl.1 rfl (Nat.le_of_ble_eq_true rfl) ⟨Nat.le_of_ble_eq_true rfl, Nat.le_of_ble_eq_true rfl⟩ dX11_town_17 (fun r9 σ9 τ9 H locs hp hw => ?_)
  obtain ⟨rfl, rfl, rfl⟩ := hp
  refine lv_pop hx hb dX11_town_20 rfl ?_
  refine lv_iload_n hx hb dX11_town_21 rfl (lv_at hl 0 rfl) ?_
  refine lv_if_ge (tgt := 27) hx hb dX11_town_22 (by decide) (fun c_3 => ?_) (fun c_3 => ?_)
  · rw [if_pos c_3] at h
    refine lv_aload_n hx hb dX11_town_27 rfl (lv_at hl 1 rfl) ?_
    refine gx_getr (j := 3) S hK hw t_0 cl_12 1 (by decide) rfl mw_448 rfl dX11_town_28 ?_
    refine lv_aload_n hx hb dX11_town_31 rfl (lv_at hl 1 rfl) ?_
    refine gx_getr (j := 9) S hK hw t_0 cl_12 2 (by decide) rfl mw_449 rfl dX11_town_32 ?_
    obtain ⟨u_4, σ_4, τ_4, q_4, h⟩ := bd_some h
    refine gx_cVv (As := [.ref (E.2.2 + 9)]) (rest := []) S hK gx_ok hw (c_X8_copy l (E := E) N σ_2 τ_2 q_4) cw_X11_118 t_3 cl_9 ⟨Nat.le_of_ble_eq_true rfl, Nat.le_of_ble_eq_true rfl⟩ rfl hl.1 rfl (Nat.le_of_ble_eq_true rfl) ⟨Nat.le_of_ble_eq_true rfl, Nat.le_of_ble_eq_true rfl⟩ dX11_town_35 (fun σ9 τ9 H locs hp hw => ?_)
    obtain ⟨rfl, rfl⟩ := hp
    refine lv_aload_n hx hb dX11_town_38 rfl (lv_at hl 1 rfl) ?_
    refine gx_getr (j := 30) S hK hw t_0 cl_12 7 (by decide) rfl mw_454 rfl dX11_town_39 ?_
    obtain ⟨u_5, σ_5, τ_5, q_5, h⟩ := bd_some h
    refine gx_cVv (As := []) (rest := []) S hK gx_ok hw (c_X6_clear l (E := E) N 30 is_30 σ_4 τ_4 q_5) cw_X11_122 t_30 cl_7 ⟨Nat.le_of_ble_eq_true rfl, Nat.le_of_ble_eq_true rfl⟩ rfl hl.1 rfl (Nat.le_of_ble_eq_true rfl) ⟨Nat.le_of_ble_eq_true rfl, Nat.le_of_ble_eq_true rfl⟩ dX11_town_42 (fun σ9 τ9 H locs hp hw => ?_)
    obtain ⟨rfl, rfl⟩ := hp
    refine lv_aload_n hx hb dX11_town_45 rfl (lv_at hl 1 rfl) ?_
    refine gx_getr (j := 44) S hK hw t_0 cl_12 9 (by decide) rfl mw_456 rfl dX11_town_46 ?_
    obtain ⟨u_6, σ_6, τ_6, q_6, h⟩ := bd_some h
    refine gx_cVv (As := []) (rest := []) S hK gx_ok hw (c_X3_clear l (E := E) N σ_5 τ_5 q_6) cw_X11_125 t_44 cl_4 ⟨Nat.le_of_ble_eq_true rfl, Nat.le_of_ble_eq_true rfl⟩ rfl hl.1 rfl (Nat.le_of_ble_eq_true rfl) ⟨Nat.le_of_ble_eq_true rfl, Nat.le_of_ble_eq_true rfl⟩ dX11_town_49 (fun σ9 τ9 H locs hp hw => ?_)
    obtain ⟨rfl, rfl⟩ := hp
    refine lv_aload_n hx hb dX11_town_52 rfl (lv_at hl 1 rfl) ?_
    refine gx_getr (j := 152) S hK hw t_0 cl_12 12 (by decide) rfl mw_459 rfl dX11_town_53 ?_
    refine lv_iconst (v := 0) hx hb dX11_town_56 (by decide) ?_
    refine gx_put S hK gx_ok hw t_152 cl_1 3 (by decide) rfl mw_340 rfl rfl (ty := .int) (v := 0) (by decide +kernel) rfl rfl dX11_town_57 (fun H locs hw => ?_)
    obtain ⟨σ_7, e_7, h⟩ := nm_some h
    rw [← e_7] at hw
    refine lv_aload_n hx hb dX11_town_60 rfl (lv_at hl 1 rfl) ?_
    refine lv_iconst (v := 0) hx hb dX11_town_61 (by decide) ?_
    refine gx_put S hK gx_ok hw t_0 cl_12 11 (by decide) rfl mw_458 rfl rfl (ty := .int) (v := 0) (by decide +kernel) rfl rfl dX11_town_62 (fun H locs hw => ?_)
    obtain ⟨σ_8, e_8, h⟩ := nm_some h
    rw [← e_8] at hw
    refine lv_iload_n hx hb dX11_town_65 rfl (lv_at hl 0 rfl) ?_
    obtain ⟨rfl, rfl, rfl⟩ := sm_inj h
    exact gx_ri (post := gq_p r_1 σ_8 τ_6) (v := r_1) S hr hlk hw rfl dX11_town_66 ⟨rfl, rfl, rfl⟩
  · rw [if_neg c_3] at h
    refine lv_iload_n hx hb dX11_town_25 rfl (lv_at hl 0 rfl) ?_
    obtain ⟨rfl, rfl, rfl⟩ := sm_inj h
    exact gx_ri (post := gq_p r_1 σ_2 τ_2) (v := r_1) S hr hlk hw rfl dX11_town_26 ⟨rfl, rfl, rfl⟩
set_option maxHeartbeats 4000000 in
set_option maxRecDepth 100000 in
theorem c_X11_town (l : Launch) {E : gE} (N : Nat) (σ : gI) (τ : gJ) {r : Int32} {σ1 : gI} {τ1 : gJ} (h : B_X11_town_0 N σ τ = some (r, σ1, τ1)) : gx_Mi l yX11_town cX11_town 2 (some .int) 7 gx_tb E σ τ [.ref (E.2.2 + 0)] (gq_p r σ1 τ1) := by
  refine gx_bi (by decide +kernel) (Nat.le_of_ble_eq_true rfl) ?_
  intro P9 e9 s m9 below meth C9 S hr hlk hK hw ls hl
  have hl : lv_has ls 2 [(0, .ref (E.2.2 + 0))] := hl
  exact b_X11_town_0 l S hr hlk hK N σ τ h hw hl
/-! X3_pop -/
def B_X3_pop_18 (N : Nat) (d : Nat) (σ : gI) (τ : gJ) (y0 : Int32) : Option (Int32 × gI × gJ) := if σ 44 2 ≤ 0 then (some (0, σ, τ)) else (if y0 < 15 then (ck y0 15 fun j_3 => bd (B_X6_copy_0 N d (46 + 7 * j_3) σ τ) fun _ σ_4 τ_4 => nm (up2 σ_4 44 1 y0) fun σ_5 => nm (up2 σ_5 44 2 ((σ_5 44 2) - 1)) fun σ_6 => some (1, σ_6, τ_4)) else (some (0, σ, τ)))
def B_X3_pop_0 (N : Nat) (d : Nat) (σ : gI) (τ : gJ) : Option (Int32 × gI × gJ) := if σ 44 1 ≤ 0 then (B_X3_pop_18 N d σ τ 14) else (B_X3_pop_18 N d σ τ ((σ 44 1) - 1))
set_option maxHeartbeats 4000000 in
set_option maxRecDepth 100000 in
theorem b_X3_pop_18 (l : Launch) (S : CallFix P9 m9 C9 cX3_pop 3 s av.toArray gx_G RX3) (hr : meth.sig.returnType = (some .boolean)) (hlk : meth.locks = false) (hK : gx_K E s) (N : Nat) (d : Nat) (td : gx_isS d) (σ : gI) (τ : gJ) (y0 : Int32) {r : Int32} {σ1 : gI} {τ1 : gJ} (h : B_X3_pop_18 N d σ τ y0 = some (r, σ1, τ1)) {H : Heap} {locs : List Loc} {ls : Array Slot} (hw : gx_W gx_tb gx_tb.length E s σ τ H locs) (hl : lv_has ls 3 [(0, .ref (E.2.2 + 44)), (1, .ref (E.2.2 + d))]) : W P9 l e9 (gx_rm 1) s m9 av.toArray below meth C9 H locs 0 0 (gq_Qi below av s E r σ1 τ1) (F0 m9 18 ls [.int y0]) := by
  have hx := S.1
  have hb := S.2.1
  unfold B_X3_pop_18 at h
  refine lv_istore_n (lv' := [(2, .int y0), (0, .ref (E.2.2 + 44)), (1, .ref (E.2.2 + d))]) hx hb dX3_pop_18 rfl hl (by decide) rfl (fun ls hl => ?_)
  refine lv_aload_n hx hb dX3_pop_19 rfl (lv_at hl 1 rfl) ?_
  refine gx_get S hK hw t_44 cl_4 2 (by decide) rfl mw_321 rfl dX3_pop_20 ?_
  refine lv_if_le (tgt := 32) hx hb dX3_pop_23 (by decide) (fun c_1 => ?_) (fun c_1 => ?_)
  · rw [if_pos c_1] at h
    refine lv_iconst (v := 0) hx hb dX3_pop_32 (by decide) ?_
    obtain ⟨rfl, rfl, rfl⟩ := sm_inj h
    exact gx_ri (post := gq_p 0 σ τ) (v := 0) S hr hlk hw rfl dX3_pop_33 ⟨rfl, rfl, rfl⟩
  · rw [if_neg c_1] at h
    refine lv_iload_n hx hb dX3_pop_26 rfl (lv_at hl 0 rfl) ?_
    refine lv_bipush (v := 15) hx hb dX3_pop_27 (by decide) ?_
    refine lv_icmp_lt (tgt := 34) hx hb dX3_pop_29 (by decide) (fun c_2 => ?_) (fun c_2 => ?_)
    · rw [if_pos c_2] at h
      refine lv_aload_n hx hb dX3_pop_34 rfl (lv_at hl 2 rfl) ?_
      refine lv_aload_n hx hb dX3_pop_35 rfl (lv_at hl 1 rfl) ?_
      refine gx_getr (j := 45) S hK hw t_44 cl_4 0 (by decide) rfl mw_319 rfl dX3_pop_36 ?_
      refine lv_iload_n hx hb dX3_pop_39 rfl (lv_at hl 0 rfl) ?_
      obtain ⟨j_3, hj_3, hi_3, h⟩ := ck_some h
      refine gx_aald (r := 46 + 7 * j_3) S hK hw t_45 j_3 hj_3 hi_3 (ra_past (in_lt hi_3 hj_3)) dX3_pop_40 ?_
      obtain ⟨u_4, σ_4, τ_4, q_4, h⟩ := bd_some h
      refine gx_cVv (As := [.ref (E.2.2 + (46 + 7 * j_3))]) (rest := []) S hK gx_ok hw (c_X6_copy l (E := E) N d (46 + 7 * j_3) td (tb_past (in_lt hi_3 hj_3)) σ τ q_4) cw_X3_23 td.1 cl_7 ⟨Nat.le_of_ble_eq_true rfl, Nat.le_of_ble_eq_true rfl⟩ rfl hl.1 rfl (Nat.le_of_ble_eq_true rfl) ⟨Nat.le_of_ble_eq_true rfl, Nat.le_of_ble_eq_true rfl⟩ dX3_pop_41 (fun σ9 τ9 H locs hp hw => ?_)
      obtain ⟨rfl, rfl⟩ := hp
      refine lv_aload_n hx hb dX3_pop_44 rfl (lv_at hl 1 rfl) ?_
      refine lv_iload_n hx hb dX3_pop_45 rfl (lv_at hl 0 rfl) ?_
      refine gx_put S hK gx_ok hw t_44 cl_4 1 (by decide) rfl mw_320 rfl rfl (ty := .int) (v := y0) (by decide +kernel) rfl rfl dX3_pop_46 (fun H locs hw => ?_)
      obtain ⟨σ_5, e_5, h⟩ := nm_some h
      rw [← e_5] at hw
      refine lv_aload_n hx hb dX3_pop_49 rfl (lv_at hl 1 rfl) ?_
      refine lv_dup hx hb dX3_pop_50 rfl ?_
      refine gx_get S hK hw t_44 cl_4 2 (by decide) rfl mw_321 rfl dX3_pop_51 ?_
      refine lv_iconst (v := 1) hx hb dX3_pop_54 (by decide) ?_
      refine lv_isub hx hb dX3_pop_55 ?_
      refine gx_put S hK gx_ok hw t_44 cl_4 2 (by decide) rfl mw_321 rfl rfl (ty := .int) (v := (σ_5 44 2) - 1) (by decide +kernel) rfl rfl dX3_pop_56 (fun H locs hw => ?_)
      obtain ⟨σ_6, e_6, h⟩ := nm_some h
      rw [← e_6] at hw
      refine lv_iconst (v := 1) hx hb dX3_pop_59 (by decide) ?_
      obtain ⟨rfl, rfl, rfl⟩ := sm_inj h
      exact gx_ri (post := gq_p 1 σ_6 τ_4) (v := 1) S hr hlk hw rfl dX3_pop_60 ⟨rfl, rfl, rfl⟩
    · rw [if_neg c_2] at h
      refine lv_iconst (v := 0) hx hb dX3_pop_32 (by decide) ?_
      obtain ⟨rfl, rfl, rfl⟩ := sm_inj h
      exact gx_ri (post := gq_p 0 σ τ) (v := 0) S hr hlk hw rfl dX3_pop_33 ⟨rfl, rfl, rfl⟩
set_option maxHeartbeats 4000000 in
set_option maxRecDepth 100000 in
theorem b_X3_pop_0 (l : Launch) (S : CallFix P9 m9 C9 cX3_pop 3 s av.toArray gx_G RX3) (hr : meth.sig.returnType = (some .boolean)) (hlk : meth.locks = false) (hK : gx_K E s) (N : Nat) (d : Nat) (td : gx_isS d) (σ : gI) (τ : gJ) {r : Int32} {σ1 : gI} {τ1 : gJ} (h : B_X3_pop_0 N d σ τ = some (r, σ1, τ1)) {H : Heap} {locs : List Loc} {ls : Array Slot} (hw : gx_W gx_tb gx_tb.length E s σ τ H locs) (hl : lv_has ls 3 [(0, .ref (E.2.2 + 44)), (1, .ref (E.2.2 + d))]) : W P9 l e9 (gx_rm 1) s m9 av.toArray below meth C9 H locs 0 0 (gq_Qi below av s E r σ1 τ1) (F0 m9 0 ls []) := by
  have hx := S.1
  have hb := S.2.1
  unfold B_X3_pop_0 at h
  refine lv_aload_n hx hb dX3_pop_0 rfl (lv_at hl 0 rfl) ?_
  refine gx_get S hK hw t_44 cl_4 1 (by decide) rfl mw_320 rfl dX3_pop_1 ?_
  refine lv_if_le (tgt := 16) hx hb dX3_pop_4 (by decide) (fun c_1 => ?_) (fun c_1 => ?_)
  · rw [if_pos c_1] at h
    refine lv_bipush (v := 14) hx hb dX3_pop_16 (by decide) ?_
    exact b_X3_pop_18 l S hr hlk hK N d td σ τ 14 h hw (lv_sub hl [0, 1] rfl)
  · rw [if_neg c_1] at h
    refine lv_aload_n hx hb dX3_pop_7 rfl (lv_at hl 0 rfl) ?_
    refine gx_get S hK hw t_44 cl_4 1 (by decide) rfl mw_320 rfl dX3_pop_8 ?_
    refine lv_iconst (v := 1) hx hb dX3_pop_11 (by decide) ?_
    refine lv_isub hx hb dX3_pop_12 ?_
    refine lv_goto (tgt := 18) hx hb dX3_pop_13 (by decide) ?_
    exact b_X3_pop_18 l S hr hlk hK N d td σ τ ((σ 44 1) - 1) h hw (lv_sub hl [0, 1] rfl)
set_option maxHeartbeats 4000000 in
set_option maxRecDepth 100000 in
theorem c_X3_pop (l : Launch) {E : gE} (N : Nat) (d : Nat) (td : gx_isS d) (σ : gI) (τ : gJ) {r : Int32} {σ1 : gI} {τ1 : gJ} (h : B_X3_pop_0 N d σ τ = some (r, σ1, τ1)) : gx_Mi l yX3_pop cX3_pop 3 (some .boolean) 1 gx_tb E σ τ [.ref (E.2.2 + 44), .ref (E.2.2 + d)] (gq_p r σ1 τ1) := by
  refine gx_bi (by decide +kernel) (Nat.le_of_ble_eq_true rfl) ?_
  intro P9 e9 s m9 below meth C9 S hr hlk hK hw ls hl
  have hl : lv_has ls 3 [(0, .ref (E.2.2 + 44)), (1, .ref (E.2.2 + d))] := hl
  exact b_X3_pop_0 l S hr hlk hK N d td σ τ h hw hl
/-! X11_undo -/
def B_X11_undo_0 (N : Nat) (σ : gI) (τ : gJ) : Option (Int32 × gI × gJ) := bd (B_X3_pop_0 N 30 σ τ) fun r_1 σ_1 τ_1 => if r_1 = 0 then (some ((-1), σ_1, τ_1)) else (some (σ_1 44 2, σ_1, τ_1))
set_option maxHeartbeats 4000000 in
set_option maxRecDepth 100000 in
theorem b_X11_undo_0 (l : Launch) (S : CallFix P9 m9 C9 cX11_undo 1 s av.toArray gx_G RX11) (hr : meth.sig.returnType = (some .int)) (hlk : meth.locks = false) (hK : gx_K E s) (N : Nat) (σ : gI) (τ : gJ) {r : Int32} {σ1 : gI} {τ1 : gJ} (h : B_X11_undo_0 N σ τ = some (r, σ1, τ1)) {H : Heap} {locs : List Loc} {ls : Array Slot} (hw : gx_W gx_tb gx_tb.length E s σ τ H locs) (hl : lv_has ls 1 [(0, .ref (E.2.2 + 0))]) : W P9 l e9 (gx_rm 2) s m9 av.toArray below meth C9 H locs 0 0 (gq_Qi below av s E r σ1 τ1) (F0 m9 0 ls []) := by
  have hx := S.1
  have hb := S.2.1
  unfold B_X11_undo_0 at h
  refine lv_aload_n hx hb dX11_undo_0 rfl (lv_at hl 0 rfl) ?_
  refine gx_getr (j := 44) S hK hw t_0 cl_12 9 (by decide) rfl mw_456 rfl dX11_undo_1 ?_
  refine lv_aload_n hx hb dX11_undo_4 rfl (lv_at hl 0 rfl) ?_
  refine gx_getr (j := 30) S hK hw t_0 cl_12 7 (by decide) rfl mw_454 rfl dX11_undo_5 ?_
  obtain ⟨r_1, σ_1, τ_1, q_1, h⟩ := bd_some h
  refine gx_cVi (As := [.ref (E.2.2 + 30)]) (rest := []) S hK gx_ok hw (c_X3_pop l (E := E) N 30 is_30 σ τ q_1) cw_X11_283 t_44 cl_4 ⟨Nat.le_of_ble_eq_true rfl, Nat.le_of_ble_eq_true rfl⟩ rfl hl.1 rfl (Nat.le_of_ble_eq_true rfl) ⟨Nat.le_of_ble_eq_true rfl, Nat.le_of_ble_eq_true rfl⟩ dX11_undo_8 (fun r9 σ9 τ9 H locs hp hw => ?_)
  obtain ⟨rfl, rfl, rfl⟩ := hp
  refine lv_if_eq (tgt := 24) hx hb dX11_undo_11 (by decide) (fun c_2 => ?_) (fun c_2 => ?_)
  · rw [if_pos c_2] at h
    refine lv_iconst (v := (-1)) hx hb dX11_undo_24 (by decide) ?_
    obtain ⟨rfl, rfl, rfl⟩ := sm_inj h
    exact gx_ri (post := gq_p (-1) σ_1 τ_1) (v := (-1)) S hr hlk hw rfl dX11_undo_25 ⟨rfl, rfl, rfl⟩
  · rw [if_neg c_2] at h
    refine lv_aload_n hx hb dX11_undo_14 rfl (lv_at hl 0 rfl) ?_
    refine gx_getr (j := 44) S hK hw t_0 cl_12 9 (by decide) rfl mw_456 rfl dX11_undo_15 ?_
    refine gx_get S hK hw t_44 cl_4 2 (by decide) rfl mw_322 rfl dX11_undo_18 ?_
    refine lv_goto (tgt := 25) hx hb dX11_undo_21 (by decide) ?_
    obtain ⟨rfl, rfl, rfl⟩ := sm_inj h
    exact gx_ri (post := gq_p (σ_1 44 2) σ_1 τ_1) (v := σ_1 44 2) S hr hlk hw rfl dX11_undo_25 ⟨rfl, rfl, rfl⟩
set_option maxHeartbeats 4000000 in
set_option maxRecDepth 100000 in
theorem c_X11_undo (l : Launch) {E : gE} (N : Nat) (σ : gI) (τ : gJ) {r : Int32} {σ1 : gI} {τ1 : gJ} (h : B_X11_undo_0 N σ τ = some (r, σ1, τ1)) : gx_Mi l yX11_undo cX11_undo 1 (some .int) 2 gx_tb E σ τ [.ref (E.2.2 + 0)] (gq_p r σ1 τ1) := by
  refine gx_bi (by decide +kernel) (Nat.le_of_ble_eq_true rfl) ?_
  intro P9 e9 s m9 below meth C9 S hr hlk hK hw ls hl
  have hl : lv_has ls 1 [(0, .ref (E.2.2 + 0))] := hl
  exact b_X11_undo_0 l S hr hlk hK N σ τ h hw hl
/-! X11_waits -/
def C_X11_waits_45 (N : Nat) (rec_45 : gI → gJ → Int32 → Int32 → Int32 → Int32 → Int32 → Int32 → Int32 → Int32 → Option (Int32 × gI × gJ)) (σ : gI) (τ : gJ) (x1 : Int32) (x2 : Int32) (x3 : Int32) (x4 : Int32) (x5 : Int32) (x6 : Int32) (x7 : Int32) (x8 : Int32) : Option (Int32 × gI × gJ) := if 30 ≤ x8 then (bd (B_X4_tell__0 N σ τ x6.toInt64 x7.toInt64) fun _ σ_2 τ_2 => some (x5, σ_2, τ_2)) else (bd (B_X11_sailed_0 N σ τ x1 x2 x3 x8) fun r_3 σ_3 τ_3 => bd (B_X11_isIn_0 N σ_3 τ_3 r_3 x4) fun r_4 σ_4 τ_4 => if r_4 = 0 then (nm (x8 + 1) fun v_14 => rec_45 σ_4 τ_4 x1 x2 x3 x4 x5 x6 x7 v_14) else (nm (x5 ||| (1 <<< (x8 &&& 31))) fun v_6 => bd (B_X11_minutesOf_0 N σ_4 τ_4 r_3) fun r_7 σ_7 τ_7 => nm (imax 0 (r_7 - x8)) fun v_8 => if x6 = (-1) then (nm (x8 + 1) fun v_10 => rec_45 σ_7 τ_7 x1 x2 x3 x4 v_6 x8 v_8 v_10) else (if x7 ≤ v_8 then (nm (x8 + 1) fun v_12 => rec_45 σ_7 τ_7 x1 x2 x3 x4 v_6 x6 x7 v_12) else (nm (x8 + 1) fun v_13 => rec_45 σ_7 τ_7 x1 x2 x3 x4 v_6 x8 v_8 v_13))))
def H_X11_waits_45 (N : Nat) : Nat → gI → gJ → Int32 → Int32 → Int32 → Int32 → Int32 → Int32 → Int32 → Int32 → Option (Int32 × gI × gJ) := itn (fun rec_45 => C_X11_waits_45 N rec_45) (fun _ _ _ _ _ _ _ _ _ _ => none)
def B_X11_waits_0 (N : Nat) (σ : gI) (τ : gJ) (x1 : Int32) (x2 : Int32) (x3 : Int32) (x4 : Int32) : Option (Int32 × gI × gJ) := bd (B_X8_has_0 N σ τ x1) fun r_1 σ_1 τ_1 => if r_1 = 0 then (some ((-1), σ_1, τ_1)) else (bd (B_X11_isLoad_0 N σ_1 τ_1 x2 x3) fun r_3 σ_3 τ_3 => if r_3 = 0 then (some ((-1), σ_3, τ_3)) else (bd (B_X8_isKitchen_0 N σ_3 τ_3 x4) fun r_5 σ_5 τ_5 => if r_5 = 0 then (some ((-1), σ_5, τ_5)) else (H_X11_waits_45 N N σ_5 τ_5 x1 x2 x3 x4 0 (-1) (-1) 0)))
set_option maxHeartbeats 4000000 in
set_option maxRecDepth 100000 in
theorem k_X11_waits_45 (l : Launch) (S : CallFix P9 m9 C9 cX11_waits 11 s av.toArray gx_G RX11) (hr : meth.sig.returnType = (some .int)) (hlk : meth.locks = false) (hK : gx_K E s) (N : Nat) (rec_45 : gI → gJ → Int32 → Int32 → Int32 → Int32 → Int32 → Int32 → Int32 → Int32 → Option (Int32 × gI × gJ)) (hrec_45 : ∀ (σ : gI) (τ : gJ) (x1 : Int32) (x2 : Int32) (x3 : Int32) (x4 : Int32) (x5 : Int32) (x6 : Int32) (x7 : Int32) (x8 : Int32) (r : Int32) (σ1 : gI) (τ1 : gJ) (H : Heap) (locs : List Loc) (ls : Array Slot), rec_45 σ τ x1 x2 x3 x4 x5 x6 x7 x8 = some (r, σ1, τ1) → gx_W gx_tb gx_tb.length E s σ τ H locs → lv_has ls 11 [(0, .ref (E.2.2 + 0)), (1, .int x1), (2, .int x2), (3, .int x3), (4, .int x4), (5, .int x5), (6, .int x6), (7, .int x7), (8, .int x8)] → W P9 l e9 (gx_rm 6) s m9 av.toArray below meth C9 H locs 0 0 (gq_Qi below av s E r σ1 τ1) (F0 m9 45 ls [])) (σ : gI) (τ : gJ) (x1 : Int32) (x2 : Int32) (x3 : Int32) (x4 : Int32) (x5 : Int32) (x6 : Int32) (x7 : Int32) (x8 : Int32) {r : Int32} {σ1 : gI} {τ1 : gJ} (h : C_X11_waits_45 N rec_45 σ τ x1 x2 x3 x4 x5 x6 x7 x8 = some (r, σ1, τ1)) {H : Heap} {locs : List Loc} {ls : Array Slot} (hw : gx_W gx_tb gx_tb.length E s σ τ H locs) (hl : lv_has ls 11 [(0, .ref (E.2.2 + 0)), (1, .int x1), (2, .int x2), (3, .int x3), (4, .int x4), (5, .int x5), (6, .int x6), (7, .int x7), (8, .int x8)]) : W P9 l e9 (gx_rm 6) s m9 av.toArray below meth C9 H locs 0 0 (gq_Qi below av s E r σ1 τ1) (F0 m9 45 ls []) := by
  have hx := S.1
  have hb := S.2.1
  unfold C_X11_waits_45 at h
  refine lv_iload hx hb dX11_waits_45 (lv_at hl 8 rfl) ?_
  refine lv_bipush (v := 30) hx hb dX11_waits_47 (by decide) ?_
  refine lv_icmp_ge (tgt := 126) hx hb dX11_waits_49 (by decide) (fun c_1 => ?_) (fun c_1 => ?_)
  · rw [if_pos c_1] at h
    refine lv_aload_n hx hb dX11_waits_126 rfl (lv_at hl 0 rfl) ?_
    refine gx_getr (j := 156) S hK hw t_0 cl_12 13 (by decide) rfl mw_460 rfl dX11_waits_127 ?_
    refine lv_iload hx hb dX11_waits_130 (lv_at hl 6 rfl) ?_
    refine lv_i2l (v := x6.toInt64) hx hb dX11_waits_132 rfl ?_
    refine lv_iload hx hb dX11_waits_133 (lv_at hl 7 rfl) ?_
    refine lv_i2l (v := x7.toInt64) hx hb dX11_waits_135 rfl ?_
    obtain ⟨u_2, σ_2, τ_2, q_2, h⟩ := bd_some h
    refine gx_cVv (As := [.long x6.toInt64, .long x7.toInt64]) (rest := []) S hK gx_ok hw (c_X4_tell_ l (E := E) N σ τ x6.toInt64 x7.toInt64 q_2) cw_X11_257 t_156 cl_5 ⟨Nat.le_of_ble_eq_true rfl, Nat.le_of_ble_eq_true rfl⟩ rfl hl.1 rfl (Nat.le_of_ble_eq_true rfl) ⟨Nat.le_of_ble_eq_true rfl, Nat.le_of_ble_eq_true rfl⟩ dX11_waits_136 (fun σ9 τ9 H locs hp hw => ?_)
    obtain ⟨rfl, rfl⟩ := hp
    refine lv_iload hx hb dX11_waits_139 (lv_at hl 5 rfl) ?_
    obtain ⟨rfl, rfl, rfl⟩ := sm_inj h
    exact gx_ri (post := gq_p x5 σ_2 τ_2) (v := x5) S hr hlk hw rfl dX11_waits_141 ⟨rfl, rfl, rfl⟩
  · rw [if_neg c_1] at h
    refine lv_aload_n hx hb dX11_waits_52 rfl (lv_at hl 0 rfl) ?_
    refine lv_iload_n hx hb dX11_waits_53 rfl (lv_at hl 1 rfl) ?_
    refine lv_iload_n hx hb dX11_waits_54 rfl (lv_at hl 2 rfl) ?_
    refine lv_iload_n hx hb dX11_waits_55 rfl (lv_at hl 3 rfl) ?_
    refine lv_iload hx hb dX11_waits_56 (lv_at hl 8 rfl) ?_
    obtain ⟨r_3, σ_3, τ_3, q_3, h⟩ := bd_some h
    refine gx_cVi (As := [.int x1, .int x2, .int x3, .int x8]) (rest := []) S hK gx_ok hw (c_X11_sailed l (E := E) N σ τ x1 x2 x3 x8 q_3) cw_X11_313 t_0 cl_12 ⟨Nat.le_of_ble_eq_true rfl, Nat.le_of_ble_eq_true rfl⟩ rfl hl.1 rfl (Nat.le_of_ble_eq_true rfl) ⟨Nat.le_of_ble_eq_true rfl, Nat.le_of_ble_eq_true rfl⟩ dX11_waits_58 (fun r9 σ9 τ9 H locs hp hw => ?_)
    obtain ⟨rfl, rfl, rfl⟩ := hp
    refine lv_istore (lv' := [(9, .int r_3), (0, .ref (E.2.2 + 0)), (1, .int x1), (2, .int x2), (3, .int x3), (4, .int x4), (5, .int x5), (6, .int x6), (7, .int x7), (8, .int x8)]) hx hb dX11_waits_61 hl (by decide) rfl (fun ls hl => ?_)
    refine lv_iload hx hb dX11_waits_63 (lv_at hl 0 rfl) ?_
    refine lv_iload hx hb dX11_waits_65 (lv_at hl 5 rfl) ?_
    obtain ⟨r_4, σ_4, τ_4, q_4, h⟩ := bd_some h
    refine gx_cSi (As := [.int r_3, .int x4]) (rest := []) S hK gx_ok hw (c_X11_isIn l (E := E) N σ_3 τ_3 r_3 x4 q_4) cw_X11_317 ⟨Nat.le_of_ble_eq_true rfl, Nat.le_of_ble_eq_true rfl⟩ rfl hl.1 rfl (Nat.le_of_ble_eq_true rfl) ⟨Nat.le_of_ble_eq_true rfl, Nat.le_of_ble_eq_true rfl⟩ dX11_waits_67 (fun r9 σ9 τ9 H locs hp hw => ?_)
    obtain ⟨rfl, rfl, rfl⟩ := hp
    refine lv_if_ne (tgt := 76) hx hb dX11_waits_70 (by decide) (fun c_5 => ?_) (fun c_5 => ?_)
    · rw [if_neg c_5] at h
      refine lv_iload hx hb dX11_waits_76 (lv_at hl 6 rfl) ?_
      refine lv_iconst (v := 1) hx hb dX11_waits_78 (by decide) ?_
      refine lv_iload hx hb dX11_waits_79 (lv_at hl 9 rfl) ?_
      refine lv_ishl hx hb dX11_waits_81 ?_
      refine lv_ior hx hb dX11_waits_82 ?_
      refine lv_istore (lv' := [(5, .int (x5 ||| (1 <<< (x8 &&& 31)))), (9, .int r_3), (0, .ref (E.2.2 + 0)), (1, .int x1), (2, .int x2), (3, .int x3), (4, .int x4), (6, .int x6), (7, .int x7), (8, .int x8)]) hx hb dX11_waits_83 hl (by decide) rfl (fun ls hl => ?_)
      obtain ⟨v_6, e_6, h⟩ := nm_some h
      have hl : lv_has ls 11 [(5, .int v_6), (9, .int r_3), (0, .ref (E.2.2 + 0)), (1, .int x1), (2, .int x2), (3, .int x3), (4, .int x4), (6, .int x6), (7, .int x7), (8, .int x8)] := by rw [e_6]; exact hl
      refine lv_iconst (v := 0) hx hb dX11_waits_85 (by decide) ?_
      refine lv_iload hx hb dX11_waits_86 (lv_at hl 1 rfl) ?_
      obtain ⟨r_7, σ_7, τ_7, q_7, h⟩ := bd_some h
      refine gx_cSi (As := [.int r_3]) (rest := [.int 0]) S hK gx_ok hw (c_X11_minutesOf l (E := E) N σ_4 τ_4 r_3 q_7) cw_X11_320 ⟨Nat.le_of_ble_eq_true rfl, Nat.le_of_ble_eq_true rfl⟩ rfl hl.1 rfl (Nat.le_of_ble_eq_true rfl) ⟨Nat.le_of_ble_eq_true rfl, Nat.le_of_ble_eq_true rfl⟩ dX11_waits_88 (fun r9 σ9 τ9 H locs hp hw => ?_)
      obtain ⟨rfl, rfl, rfl⟩ := hp
      refine lv_iload hx hb dX11_waits_91 (lv_at hl 9 rfl) ?_
      refine lv_isub hx hb dX11_waits_93 ?_
      refine gx_max (w := imax 0 (r_7 - x8)) S hl.1 mw_789 mw_577 mw_102 mw_578 ⟨Nat.le_of_ble_eq_true rfl, Nat.le_of_ble_eq_true rfl⟩ ⟨Nat.le_of_ble_eq_true rfl, Nat.le_of_ble_eq_true rfl⟩ dX11_waits_94 rfl ?_
      refine lv_istore (lv' := [(10, .int (imax 0 (r_7 - x8))), (5, .int v_6), (9, .int r_3), (0, .ref (E.2.2 + 0)), (1, .int x1), (2, .int x2), (3, .int x3), (4, .int x4), (6, .int x6), (7, .int x7), (8, .int x8)]) hx hb dX11_waits_97 hl (by decide) rfl (fun ls hl => ?_)
      obtain ⟨v_8, e_8, h⟩ := nm_some h
      have hl : lv_has ls 11 [(10, .int v_8), (5, .int v_6), (9, .int r_3), (0, .ref (E.2.2 + 0)), (1, .int x1), (2, .int x2), (3, .int x3), (4, .int x4), (6, .int x6), (7, .int x7), (8, .int x8)] := by rw [e_8]; exact hl
      refine lv_iload hx hb dX11_waits_99 (lv_at hl 8 rfl) ?_
      refine lv_iconst (v := (-1)) hx hb dX11_waits_101 (by decide) ?_
      refine lv_icmp_eq (tgt := 112) hx hb dX11_waits_102 (by decide) (fun c_9 => ?_) (fun c_9 => ?_)
      · rw [if_pos c_9] at h
        refine lv_iload hx hb dX11_waits_112 (lv_at hl 10 rfl) ?_
        refine lv_istore (lv' := [(6, .int x8), (10, .int v_8), (5, .int v_6), (9, .int r_3), (0, .ref (E.2.2 + 0)), (1, .int x1), (2, .int x2), (3, .int x3), (4, .int x4), (7, .int x7), (8, .int x8)]) hx hb dX11_waits_114 hl (by decide) rfl (fun ls hl => ?_)
        refine lv_iload hx hb dX11_waits_116 (lv_at hl 1 rfl) ?_
        refine lv_istore (lv' := [(7, .int v_8), (6, .int x8), (10, .int v_8), (5, .int v_6), (9, .int r_3), (0, .ref (E.2.2 + 0)), (1, .int x1), (2, .int x2), (3, .int x3), (4, .int x4), (8, .int x8)]) hx hb dX11_waits_118 hl (by decide) rfl (fun ls hl => ?_)
        refine lv_iinc (v := x8 + 1) (lv' := [(8, .int (x8 + 1)), (7, .int v_8), (6, .int x8), (10, .int v_8), (5, .int v_6), (9, .int r_3), (0, .ref (E.2.2 + 0)), (1, .int x1), (2, .int x2), (3, .int x3), (4, .int x4)]) hx hb dX11_waits_120 hl (k := 10) rfl rfl (by decide) rfl (fun ls hl => ?_)
        obtain ⟨v_10, e_10, h⟩ := nm_some h
        have hl : lv_has ls 11 [(8, .int v_10), (7, .int v_8), (6, .int x8), (10, .int v_8), (5, .int v_6), (9, .int r_3), (0, .ref (E.2.2 + 0)), (1, .int x1), (2, .int x2), (3, .int x3), (4, .int x4)] := by rw [e_10]; exact hl
        refine lv_goto (tgt := 45) hx hb dX11_waits_123 (by decide) ?_
        exact hrec_45 σ_7 τ_7 x1 x2 x3 x4 v_6 x8 v_8 v_10 _ _ _ _ _ _ h hw (lv_sub hl [6, 7, 8, 9, 10, 4, 2, 1, 0] rfl)
      · rw [if_neg c_9] at h
        refine lv_iload hx hb dX11_waits_105 (lv_at hl 0 rfl) ?_
        refine lv_iload hx hb dX11_waits_107 (lv_at hl 9 rfl) ?_
        refine lv_icmp_ge (tgt := 120) hx hb dX11_waits_109 (by decide) (fun c_11 => ?_) (fun c_11 => ?_)
        · rw [if_pos c_11] at h
          refine lv_iinc (v := x8 + 1) (lv' := [(8, .int (x8 + 1)), (10, .int v_8), (5, .int v_6), (9, .int r_3), (0, .ref (E.2.2 + 0)), (1, .int x1), (2, .int x2), (3, .int x3), (4, .int x4), (6, .int x6), (7, .int x7)]) hx hb dX11_waits_120 hl (k := 10) rfl rfl (by decide) rfl (fun ls hl => ?_)
          obtain ⟨v_12, e_12, h⟩ := nm_some h
          have hl : lv_has ls 11 [(8, .int v_12), (10, .int v_8), (5, .int v_6), (9, .int r_3), (0, .ref (E.2.2 + 0)), (1, .int x1), (2, .int x2), (3, .int x3), (4, .int x4), (6, .int x6), (7, .int x7)] := by rw [e_12]; exact hl
          refine lv_goto (tgt := 45) hx hb dX11_waits_123 (by decide) ?_
          exact hrec_45 σ_7 τ_7 x1 x2 x3 x4 v_6 x6 x7 v_12 _ _ _ _ _ _ h hw (lv_sub hl [4, 5, 6, 7, 8, 2, 9, 10, 0] rfl)
        · rw [if_neg c_11] at h
          refine lv_iload hx hb dX11_waits_112 (lv_at hl 10 rfl) ?_
          refine lv_istore (lv' := [(6, .int x8), (10, .int v_8), (5, .int v_6), (9, .int r_3), (0, .ref (E.2.2 + 0)), (1, .int x1), (2, .int x2), (3, .int x3), (4, .int x4), (7, .int x7), (8, .int x8)]) hx hb dX11_waits_114 hl (by decide) rfl (fun ls hl => ?_)
          refine lv_iload hx hb dX11_waits_116 (lv_at hl 1 rfl) ?_
          refine lv_istore (lv' := [(7, .int v_8), (6, .int x8), (10, .int v_8), (5, .int v_6), (9, .int r_3), (0, .ref (E.2.2 + 0)), (1, .int x1), (2, .int x2), (3, .int x3), (4, .int x4), (8, .int x8)]) hx hb dX11_waits_118 hl (by decide) rfl (fun ls hl => ?_)
          refine lv_iinc (v := x8 + 1) (lv' := [(8, .int (x8 + 1)), (7, .int v_8), (6, .int x8), (10, .int v_8), (5, .int v_6), (9, .int r_3), (0, .ref (E.2.2 + 0)), (1, .int x1), (2, .int x2), (3, .int x3), (4, .int x4)]) hx hb dX11_waits_120 hl (k := 10) rfl rfl (by decide) rfl (fun ls hl => ?_)
          obtain ⟨v_13, e_13, h⟩ := nm_some h
          have hl : lv_has ls 11 [(8, .int v_13), (7, .int v_8), (6, .int x8), (10, .int v_8), (5, .int v_6), (9, .int r_3), (0, .ref (E.2.2 + 0)), (1, .int x1), (2, .int x2), (3, .int x3), (4, .int x4)] := by rw [e_13]; exact hl
          refine lv_goto (tgt := 45) hx hb dX11_waits_123 (by decide) ?_
          exact hrec_45 σ_7 τ_7 x1 x2 x3 x4 v_6 x8 v_8 v_13 _ _ _ _ _ _ h hw (lv_sub hl [6, 7, 8, 9, 10, 4, 2, 1, 0] rfl)
    · rw [if_pos c_5] at h
      refine lv_goto (tgt := 120) hx hb dX11_waits_73 (by decide) ?_
      refine lv_iinc (v := x8 + 1) (lv' := [(8, .int (x8 + 1)), (9, .int r_3), (0, .ref (E.2.2 + 0)), (1, .int x1), (2, .int x2), (3, .int x3), (4, .int x4), (5, .int x5), (6, .int x6), (7, .int x7)]) hx hb dX11_waits_120 hl (k := 9) rfl rfl (by decide) rfl (fun ls hl => ?_)
      obtain ⟨v_14, e_14, h⟩ := nm_some h
      have hl : lv_has ls 11 [(8, .int v_14), (9, .int r_3), (0, .ref (E.2.2 + 0)), (1, .int x1), (2, .int x2), (3, .int x3), (4, .int x4), (5, .int x5), (6, .int x6), (7, .int x7)] := by rw [e_14]; exact hl
      refine lv_goto (tgt := 45) hx hb dX11_waits_123 (by decide) ?_
      exact hrec_45 σ_4 τ_4 x1 x2 x3 x4 x5 x6 x7 v_14 _ _ _ _ _ _ h hw (lv_sub hl [2, 3, 4, 5, 6, 7, 8, 9, 0] rfl)
set_option maxHeartbeats 4000000 in
set_option maxRecDepth 100000 in
theorem h_X11_waits_45 (l : Launch) (S : CallFix P9 m9 C9 cX11_waits 11 s av.toArray gx_G RX11) (hr : meth.sig.returnType = (some .int)) (hlk : meth.locks = false) (hK : gx_K E s) (N : Nat) : ∀ (n : Nat) (σ : gI) (τ : gJ) (x1 : Int32) (x2 : Int32) (x3 : Int32) (x4 : Int32) (x5 : Int32) (x6 : Int32) (x7 : Int32) (x8 : Int32) (r : Int32) (σ1 : gI) (τ1 : gJ), H_X11_waits_45 N n σ τ x1 x2 x3 x4 x5 x6 x7 x8 = some (r, σ1, τ1) → ∀ (H : Heap) (locs : List Loc) (ls : Array Slot), gx_W gx_tb gx_tb.length E s σ τ H locs → lv_has ls 11 [(0, .ref (E.2.2 + 0)), (1, .int x1), (2, .int x2), (3, .int x3), (4, .int x4), (5, .int x5), (6, .int x6), (7, .int x7), (8, .int x8)] → W P9 l e9 (gx_rm 6) s m9 av.toArray below meth C9 H locs 0 0 (gq_Qi below av s E r σ1 τ1) (F0 m9 45 ls []) := by
  intro n
  induction n with
  | zero => intro σ τ x1 x2 x3 x4 x5 x6 x7 x8 r σ1 τ1 h; cases h
  | succ n ih =>
    intro σ τ x1 x2 x3 x4 x5 x6 x7 x8 r σ1 τ1 h H locs ls hw hl
    exact k_X11_waits_45 l S hr hlk hK N (H_X11_waits_45 N n) (fun σ τ x1 x2 x3 x4 x5 x6 x7 x8 r σ1 τ1 H locs ls h hw hl => ih σ τ x1 x2 x3 x4 x5 x6 x7 x8 r σ1 τ1 h H locs ls hw hl) σ τ x1 x2 x3 x4 x5 x6 x7 x8 h hw hl
set_option maxHeartbeats 4000000 in
set_option maxRecDepth 100000 in
theorem b_X11_waits_0 (l : Launch) (S : CallFix P9 m9 C9 cX11_waits 11 s av.toArray gx_G RX11) (hr : meth.sig.returnType = (some .int)) (hlk : meth.locks = false) (hK : gx_K E s) (N : Nat) (σ : gI) (τ : gJ) (x1 : Int32) (x2 : Int32) (x3 : Int32) (x4 : Int32) {r : Int32} {σ1 : gI} {τ1 : gJ} (h : B_X11_waits_0 N σ τ x1 x2 x3 x4 = some (r, σ1, τ1)) {H : Heap} {locs : List Loc} {ls : Array Slot} (hw : gx_W gx_tb gx_tb.length E s σ τ H locs) (hl : lv_has ls 11 [(0, .ref (E.2.2 + 0)), (1, .int x1), (2, .int x2), (3, .int x3), (4, .int x4)]) : W P9 l e9 (gx_rm 6) s m9 av.toArray below meth C9 H locs 0 0 (gq_Qi below av s E r σ1 τ1) (F0 m9 0 ls []) := by
  have hx := S.1
  have hb := S.2.1
  unfold B_X11_waits_0 at h
  refine lv_aload_n hx hb dX11_waits_0 rfl (lv_at hl 0 rfl) ?_
  refine gx_getr (j := 3) S hK hw t_0 cl_12 1 (by decide) rfl mw_448 rfl dX11_waits_1 ?_
  refine lv_iload_n hx hb dX11_waits_4 rfl (lv_at hl 1 rfl) ?_
  obtain ⟨r_1, σ_1, τ_1, q_1, h⟩ := bd_some h
  refine gx_cVi (As := [.int x1]) (rest := []) S hK gx_ok hw (c_X8_has l (E := E) N σ τ x1 q_1) cw_X11_137 t_3 cl_9 ⟨Nat.le_of_ble_eq_true rfl, Nat.le_of_ble_eq_true rfl⟩ rfl hl.1 rfl (Nat.le_of_ble_eq_true rfl) ⟨Nat.le_of_ble_eq_true rfl, Nat.le_of_ble_eq_true rfl⟩ dX11_waits_5 (fun r9 σ9 τ9 H locs hp hw => ?_)
  obtain ⟨rfl, rfl, rfl⟩ := hp
  refine lv_if_eq (tgt := 31) hx hb dX11_waits_8 (by decide) (fun c_2 => ?_) (fun c_2 => ?_)
  · rw [if_pos c_2] at h
    refine lv_iconst (v := (-1)) hx hb dX11_waits_31 (by decide) ?_
    obtain ⟨rfl, rfl, rfl⟩ := sm_inj h
    exact gx_ri (post := gq_p (-1) σ_1 τ_1) (v := (-1)) S hr hlk hw rfl dX11_waits_32 ⟨rfl, rfl, rfl⟩
  · rw [if_neg c_2] at h
    refine lv_iload_n hx hb dX11_waits_11 rfl (lv_at hl 2 rfl) ?_
    refine lv_iload_n hx hb dX11_waits_12 rfl (lv_at hl 3 rfl) ?_
    obtain ⟨r_3, σ_3, τ_3, q_3, h⟩ := bd_some h
    refine gx_cSi (As := [.int x2, .int x3]) (rest := []) S hK gx_ok hw (c_X11_isLoad l (E := E) N σ_1 τ_1 x2 x3 q_3) cw_X11_227 ⟨Nat.le_of_ble_eq_true rfl, Nat.le_of_ble_eq_true rfl⟩ rfl hl.1 rfl (Nat.le_of_ble_eq_true rfl) ⟨Nat.le_of_ble_eq_true rfl, Nat.le_of_ble_eq_true rfl⟩ dX11_waits_13 (fun r9 σ9 τ9 H locs hp hw => ?_)
    obtain ⟨rfl, rfl, rfl⟩ := hp
    refine lv_if_eq (tgt := 31) hx hb dX11_waits_16 (by decide) (fun c_4 => ?_) (fun c_4 => ?_)
    · rw [if_pos c_4] at h
      refine lv_iconst (v := (-1)) hx hb dX11_waits_31 (by decide) ?_
      obtain ⟨rfl, rfl, rfl⟩ := sm_inj h
      exact gx_ri (post := gq_p (-1) σ_3 τ_3) (v := (-1)) S hr hlk hw rfl dX11_waits_32 ⟨rfl, rfl, rfl⟩
    · rw [if_neg c_4] at h
      refine lv_aload_n hx hb dX11_waits_19 rfl (lv_at hl 0 rfl) ?_
      refine gx_getr (j := 3) S hK hw t_0 cl_12 1 (by decide) rfl mw_448 rfl dX11_waits_20 ?_
      refine lv_iload hx hb dX11_waits_23 (lv_at hl 4 rfl) ?_
      obtain ⟨r_5, σ_5, τ_5, q_5, h⟩ := bd_some h
      refine gx_cVi (As := [.int x4]) (rest := []) S hK gx_ok hw (c_X8_isKitchen l (E := E) N σ_3 τ_3 x4 q_5) cw_X11_234 t_3 cl_9 ⟨Nat.le_of_ble_eq_true rfl, Nat.le_of_ble_eq_true rfl⟩ rfl hl.1 rfl (Nat.le_of_ble_eq_true rfl) ⟨Nat.le_of_ble_eq_true rfl, Nat.le_of_ble_eq_true rfl⟩ dX11_waits_25 (fun r9 σ9 τ9 H locs hp hw => ?_)
      obtain ⟨rfl, rfl, rfl⟩ := hp
      refine lv_if_ne (tgt := 33) hx hb dX11_waits_28 (by decide) (fun c_6 => ?_) (fun c_6 => ?_)
      · rw [if_neg c_6] at h
        refine lv_iconst (v := 0) hx hb dX11_waits_33 (by decide) ?_
        refine lv_istore (lv' := [(5, .int 0), (0, .ref (E.2.2 + 0)), (1, .int x1), (2, .int x2), (3, .int x3), (4, .int x4)]) hx hb dX11_waits_34 hl (by decide) rfl (fun ls hl => ?_)
        refine lv_iconst (v := (-1)) hx hb dX11_waits_36 (by decide) ?_
        refine lv_istore (lv' := [(6, .int (-1)), (5, .int 0), (0, .ref (E.2.2 + 0)), (1, .int x1), (2, .int x2), (3, .int x3), (4, .int x4)]) hx hb dX11_waits_37 hl (by decide) rfl (fun ls hl => ?_)
        refine lv_iconst (v := (-1)) hx hb dX11_waits_39 (by decide) ?_
        refine lv_istore (lv' := [(7, .int (-1)), (6, .int (-1)), (5, .int 0), (0, .ref (E.2.2 + 0)), (1, .int x1), (2, .int x2), (3, .int x3), (4, .int x4)]) hx hb dX11_waits_40 hl (by decide) rfl (fun ls hl => ?_)
        refine lv_iconst (v := 0) hx hb dX11_waits_42 (by decide) ?_
        refine lv_istore (lv' := [(8, .int 0), (7, .int (-1)), (6, .int (-1)), (5, .int 0), (0, .ref (E.2.2 + 0)), (1, .int x1), (2, .int x2), (3, .int x3), (4, .int x4)]) hx hb dX11_waits_43 hl (by decide) rfl (fun ls hl => ?_)
        exact h_X11_waits_45 l S hr hlk hK N N σ_5 τ_5 x1 x2 x3 x4 0 (-1) (-1) 0 _ _ _ h _ _ _ hw (lv_sub hl [4, 5, 6, 7, 8, 3, 2, 1, 0] rfl)
      · rw [if_pos c_6] at h
        refine lv_iconst (v := (-1)) hx hb dX11_waits_31 (by decide) ?_
        obtain ⟨rfl, rfl, rfl⟩ := sm_inj h
        exact gx_ri (post := gq_p (-1) σ_5 τ_5) (v := (-1)) S hr hlk hw rfl dX11_waits_32 ⟨rfl, rfl, rfl⟩
set_option maxHeartbeats 4000000 in
set_option maxRecDepth 100000 in
theorem c_X11_waits (l : Launch) {E : gE} (N : Nat) (σ : gI) (τ : gJ) (x1 : Int32) (x2 : Int32) (x3 : Int32) (x4 : Int32) {r : Int32} {σ1 : gI} {τ1 : gJ} (h : B_X11_waits_0 N σ τ x1 x2 x3 x4 = some (r, σ1, τ1)) : gx_Mi l yX11_waits cX11_waits 11 (some .int) 6 gx_tb E σ τ [.ref (E.2.2 + 0), .int x1, .int x2, .int x3, .int x4] (gq_p r σ1 τ1) := by
  refine gx_bi (by decide +kernel) (Nat.le_of_ble_eq_true rfl) ?_
  intro P9 e9 s m9 below meth C9 S hr hlk hK hw ls hl
  have hl : lv_has ls 11 [(0, .ref (E.2.2 + 0)), (1, .int x1), (2, .int x2), (3, .int x3), (4, .int x4)] := hl
  exact b_X11_waits_0 l S hr hlk hK N σ τ x1 x2 x3 x4 h hw hl
end F4
