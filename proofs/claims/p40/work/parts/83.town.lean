abbrev gc_Qi (mc ms : Nat) (below : List Frame) (av : List Value) (s : State) (E : gE) (r : Int32) (σ : gI) (τ : gJ) : State → Prop := MQ below (va_Qi (fun r' (u : gI × gJ) => gq_p r σ τ r' u.1 u.2) (fun u t => gx_P gx_tb E u.1 u.2 t.heap) (gx_A gx_tb.length E.2.2 s.heap.size)) av.toArray s mc ms (gx_A gx_tb.length E.2.2 s.heap.size)
def sb_9 : List Int32 := [103, 100, 102, 114, 109, 105, 107]
theorem zk_9 : gx_ss[9]? = some (RX12, 192, "gdfrmik", sb_9) := rfl
def sb_11 : List Int32 := [48, 49, 50, 51, 52, 53, 54, 55, 56, 57]
theorem zk_11 : gx_ss[11]? = some (RX12, 197, "0123456789", sb_11) := rfl
theorem by_11 : ∀ j : Nat, fits .byte (.int (sb_11.getD j 0)) = true := fun j => match j with
  | 0 => by decide +kernel
  | 1 => by decide +kernel
  | 2 => by decide +kernel
  | 3 => by decide +kernel
  | 4 => by decide +kernel
  | 5 => by decide +kernel
  | 6 => by decide +kernel
  | 7 => by decide +kernel
  | 8 => by decide +kernel
  | 9 => by decide +kernel
  | n + 10 => by
    show fits .byte (.int 0) = true
    decide +kernel
section RP
variable {a9 v9 : Nat} {w9 : Value} {P9 : Program} {e9 : Env} {s : State} {m9 : MethodId} {below : List Frame} {meth : Method} {C9 : Code} {E : gE} {av : List Value}
def B_X12_readsPlace_162 (N : Nat) (σ : gI) (τ : gJ) (x1 : Int32) (x2 : Int32) (y0 : Int32) : Option (Int32 × gI × gJ) := sbx y0 <| bd (B_X12_takesOf_0 N (sb_11.drop y0.toNatClampNeg) σ τ) fun r_2 σ_2 τ_2 => if 0 ≤ r_2 then (ck x1 12 fun j_4 => nm (up2 σ_2 212 j_4 (r_2 + y0)) fun σ_5 => if x2 = 4 then (sbx r_2 <| bd (B_X12_takesOf_0 N (sb_11.drop r_2.toNatClampNeg) σ_5 τ_2) fun r_8 σ_8 τ_8 => if 0 ≤ r_8 then (nm (up2 σ_8 212 j_4 (((10 * r_2) + r_2) + r_8)) fun σ_10 => some (1, σ_10, τ_8)) else (some (0, σ_8, τ_8))) else (some (1, σ_5, τ_2))) else (some (0, σ_2, τ_2))
def B_X12_readsPlace_0 (N : Nat) (σ : gI) (τ : gJ) : Option (Int32 × gI × gJ) := nm (σ 199 21) fun v_1 => if v_1 = 12 then (some (0, σ, τ)) else (bd (B_X12_takesOf_0 N sb_9 σ τ) fun r_3 σ_3 τ_3 => if 0 ≤ r_3 then (ck v_1 12 fun j_5 => nm (up2 σ_3 209 j_5 r_3) fun σ_6 => nm (up2 σ_6 210 j_5 (-1)) fun σ_7 => nm (up2 σ_7 211 j_5 (-1)) fun σ_8 => nm (up2 σ_8 212 j_5 0) fun σ_9 => nm (up2 σ_9 199 21 ((σ_9 199 21) + 1)) fun σ_10 => if r_3 = 6 then (some (1, σ_10, τ_3)) else (bd (B_X12_readsLetter_0 N σ_10 τ_3) fun r_12 σ_12 τ_12 => nm (up2 σ_12 210 j_5 r_12) fun σ_13 => if σ_13 210 j_5 < 0 then (if σ_13 210 j_5 < 0 then (some (0, σ_13, τ_12)) else (some (1, σ_13, τ_12))) else (if r_3 = 0 then (if σ_13 210 j_5 < 0 then (some (0, σ_13, τ_12)) else (some (1, σ_13, τ_12))) else (if r_3 = 1 then (bd (B_X12_readsLetter_0 N σ_13 τ_12) fun r_20 σ_20 τ_20 => nm (up2 σ_20 211 j_5 r_20) fun σ_21 => if σ_21 211 j_5 < 0 then (some (0, σ_21, τ_20)) else (some (1, σ_21, τ_20))) else (if r_3 = 4 then (B_X12_readsPlace_162 N σ_13 τ_12 v_1 r_3 0) else (if r_3 = 5 then (B_X12_readsPlace_162 N σ_13 τ_12 v_1 r_3 2) else (B_X12_readsPlace_162 N σ_13 τ_12 v_1 r_3 1))))))) else (some (0, σ_3, τ_3)))
set_option maxHeartbeats 4000000 in
set_option maxRecDepth 100000 in
theorem b_X12_readsPlace_162 (l : Launch) (S : CallFix P9 m9 C9 cX12_readsPlace 7 s av.toArray gx_G RX12) (hr : meth.sig.returnType = (some .boolean)) (hlk : meth.locks = false) (hK : gx_K E s) (N : Nat) (σ : gI) (τ : gJ) (x1 : Int32) (x2 : Int32) (y0 : Int32) {r : Int32} {σ1 : gI} {τ1 : gJ} (h : B_X12_readsPlace_162 N σ τ x1 x2 y0 = some (r, σ1, τ1)) {H : Heap} {locs : List Loc} {ls : Array Slot} (hw : gx_W gx_tb gx_tb.length E s σ τ H locs) (hl : lv_has ls 7 [(0, .ref (E.2.2 + 199)), (1, .int x1), (2, .int x2), (3, .ref (E.1.2.1 11))]) : W P9 l e9 (gx_rc 7 4 28) s m9 av.toArray below meth C9 H locs 0 0 (gc_Qi 4 28 below av s E r σ1 τ1) (F0 m9 162 ls [.int y0]) := by
  have hx := S.1
  have hb := S.2.1
  unfold B_X12_readsPlace_162 at h
  refine lv_istore (lv' := [(4, .int y0), (0, .ref (E.2.2 + 199)), (1, .int x1), (2, .int x2), (3, .ref (E.1.2.1 11))]) hx hb dX12_readsPlace_162 hl (by decide) rfl (fun ls hl => ?_)
  refine lv_aload_n hx hb dX12_readsPlace_164 rfl (lv_at hl 1 rfl) ?_
  refine lv_aload_n hx hb dX12_readsPlace_165 rfl (lv_at hl 4 rfl) ?_
  refine lv_iload hx hb dX12_readsPlace_166 (lv_at hl 0 rfl) ?_
  obtain ⟨hx_1, h⟩ := sbx_some h
  refine zs_sub (rest := [.ref (E.2.2 + 199)]) S hK hw (zs_k hK hw zk_11) rfl by_11 N hx_1 cw_X12_199 ⟨Nat.le_of_ble_eq_true rfl, Nat.le_of_ble_eq_true rfl⟩ hl.1 (Nat.le_of_ble_eq_true rfl) ⟨Nat.le_of_ble_eq_true rfl, Nat.le_of_ble_eq_true rfl⟩ dX12_readsPlace_168 (fun ra_1 va_1 H locs hz_1 hw => ?_)
  obtain ⟨r_2, σ_2, τ_2, q_2, h⟩ := bd_some h
  refine zs_V (As := [.ref ra_1]) (rest := []) S hK hw hz_1 (c_X12_takesOf l (E := E) N (sb_11.drop y0.toNatClampNeg) σ τ q_2) rfl cw_X12_183 (va_recv hK.1 hw.1 cl_13.1 (gx_at t_199)) ⟨Nat.le_of_ble_eq_true rfl, Nat.le_of_ble_eq_true rfl⟩ rfl hl.1 rfl (Nat.le_of_ble_eq_true rfl) ⟨Nat.le_of_ble_eq_true rfl, Nat.le_of_ble_eq_true rfl⟩ dX12_readsPlace_171 (fun r9 σ9 τ9 H locs hp hw => ?_)
  obtain ⟨rfl, rfl, rfl⟩ := hp
  refine lv_istore (lv' := [(5, .int r_2), (4, .int y0), (0, .ref (E.2.2 + 199)), (1, .int x1), (2, .int x2), (3, .ref (E.1.2.1 11))]) hx hb dX12_readsPlace_174 hl (by decide) rfl (fun ls hl => ?_)
  refine lv_iload hx hb dX12_readsPlace_176 (lv_at hl 0 rfl) ?_
  refine lv_if_ge (tgt := 183) hx hb dX12_readsPlace_178 (by decide) (fun c_3 => ?_) (fun c_3 => ?_)
  · rw [if_pos c_3] at h
    refine lv_aload_n hx hb dX12_readsPlace_183 rfl (lv_at hl 2 rfl) ?_
    refine gx_getr (j := 212) S hK hw t_199 cl_13 20 (by decide) rfl mw_1434 rfl dX12_readsPlace_184 ?_
    refine lv_iload_n hx hb dX12_readsPlace_187 rfl (lv_at hl 3 rfl) ?_
    refine lv_iload hx hb dX12_readsPlace_188 (lv_at hl 0 rfl) ?_
    refine lv_iload hx hb dX12_readsPlace_190 (lv_at hl 1 rfl) ?_
    refine lv_iadd hx hb dX12_readsPlace_192 ?_
    obtain ⟨j_4, hj_4, hi_4, h⟩ := ck_some h
    refine gx_iast S hK gx_ok hw t_212 j_4 hj_4 hi_4 dX12_readsPlace_193 (fun H locs hw => ?_)
    obtain ⟨σ_5, e_5, h⟩ := nm_some h
    rw [← e_5] at hw
    refine lv_iload_n hx hb dX12_readsPlace_194 rfl (lv_at hl 4 rfl) ?_
    refine lv_iconst (v := 4) hx hb dX12_readsPlace_195 (by decide) ?_
    refine lv_icmp_ne (tgt := 235) hx hb dX12_readsPlace_196 (by decide) (fun c_6 => ?_) (fun c_6 => ?_)
    · rw [if_neg c_6] at h
      refine lv_iconst (v := 1) hx hb dX12_readsPlace_235 (by decide) ?_
      obtain ⟨rfl, rfl, rfl⟩ := sm_inj h
      exact gc_ri (post := gq_p 1 σ_5 τ_2) (v := 1) S hr hlk hw rfl dX12_readsPlace_236 (Nat.le_of_ble_eq_true rfl) (Nat.le_of_ble_eq_true rfl) ⟨rfl, rfl, rfl⟩
    · rw [if_pos c_6] at h
      refine lv_aload_n hx hb dX12_readsPlace_199 rfl (lv_at hl 2 rfl) ?_
      refine lv_aload_n hx hb dX12_readsPlace_200 rfl (lv_at hl 5 rfl) ?_
      refine lv_iload hx hb dX12_readsPlace_201 (lv_at hl 0 rfl) ?_
      obtain ⟨hx_7, h⟩ := sbx_some h
      refine zs_sub (rest := [.ref (E.2.2 + 199)]) S hK hw (zs_k hK hw zk_11) rfl by_11 N hx_7 cw_X12_199 ⟨Nat.le_of_ble_eq_true rfl, Nat.le_of_ble_eq_true rfl⟩ hl.1 (Nat.le_of_ble_eq_true rfl) ⟨Nat.le_of_ble_eq_true rfl, Nat.le_of_ble_eq_true rfl⟩ dX12_readsPlace_203 (fun ra_7 va_7 H locs hz_7 hw => ?_)
      obtain ⟨r_8, σ_8, τ_8, q_8, h⟩ := bd_some h
      refine zs_V (As := [.ref ra_7]) (rest := []) S hK hw hz_7 (c_X12_takesOf l (E := E) N (sb_11.drop r_2.toNatClampNeg) σ_5 τ_2 q_8) rfl cw_X12_183 (va_recv hK.1 hw.1 cl_13.1 (gx_at t_199)) ⟨Nat.le_of_ble_eq_true rfl, Nat.le_of_ble_eq_true rfl⟩ rfl hl.1 rfl (Nat.le_of_ble_eq_true rfl) ⟨Nat.le_of_ble_eq_true rfl, Nat.le_of_ble_eq_true rfl⟩ dX12_readsPlace_206 (fun r9 σ9 τ9 H locs hp hw => ?_)
      obtain ⟨rfl, rfl, rfl⟩ := hp
      refine lv_istore (lv' := [(6, .int r_8), (5, .int r_2), (4, .int y0), (0, .ref (E.2.2 + 199)), (1, .int x1), (2, .int x2), (3, .ref (E.1.2.1 11))]) hx hb dX12_readsPlace_209 hl (by decide) rfl (fun ls hl => ?_)
      refine lv_iload hx hb dX12_readsPlace_211 (lv_at hl 0 rfl) ?_
      refine lv_if_ge (tgt := 218) hx hb dX12_readsPlace_213 (by decide) (fun c_9 => ?_) (fun c_9 => ?_)
      · rw [if_pos c_9] at h
        refine lv_aload_n hx hb dX12_readsPlace_218 rfl (lv_at hl 3 rfl) ?_
        refine gx_getr (j := 212) S hK hw t_199 cl_13 20 (by decide) rfl mw_1434 rfl dX12_readsPlace_219 ?_
        refine lv_iload_n hx hb dX12_readsPlace_222 rfl (lv_at hl 4 rfl) ?_
        refine lv_bipush (v := 10) hx hb dX12_readsPlace_223 (by decide) ?_
        refine lv_iload hx hb dX12_readsPlace_225 (lv_at hl 1 rfl) ?_
        refine lv_imul hx hb dX12_readsPlace_227 ?_
        refine lv_iload hx hb dX12_readsPlace_228 (lv_at hl 1 rfl) ?_
        refine lv_iadd hx hb dX12_readsPlace_230 ?_
        refine lv_iload hx hb dX12_readsPlace_231 (lv_at hl 0 rfl) ?_
        refine lv_iadd hx hb dX12_readsPlace_233 ?_
        refine gx_iast S hK gx_ok hw t_212 j_4 hj_4 hi_4 dX12_readsPlace_234 (fun H locs hw => ?_)
        obtain ⟨σ_10, e_10, h⟩ := nm_some h
        rw [← e_10] at hw
        refine lv_iconst (v := 1) hx hb dX12_readsPlace_235 (by decide) ?_
        obtain ⟨rfl, rfl, rfl⟩ := sm_inj h
        exact gc_ri (post := gq_p 1 σ_10 τ_8) (v := 1) S hr hlk hw rfl dX12_readsPlace_236 (Nat.le_of_ble_eq_true rfl) (Nat.le_of_ble_eq_true rfl) ⟨rfl, rfl, rfl⟩
      · rw [if_neg c_9] at h
        refine lv_iconst (v := 0) hx hb dX12_readsPlace_216 (by decide) ?_
        obtain ⟨rfl, rfl, rfl⟩ := sm_inj h
        exact gc_ri (post := gq_p 0 σ_8 τ_8) (v := 0) S hr hlk hw rfl dX12_readsPlace_217 (Nat.le_of_ble_eq_true rfl) (Nat.le_of_ble_eq_true rfl) ⟨rfl, rfl, rfl⟩
  · rw [if_neg c_3] at h
    refine lv_iconst (v := 0) hx hb dX12_readsPlace_181 (by decide) ?_
    obtain ⟨rfl, rfl, rfl⟩ := sm_inj h
    exact gc_ri (post := gq_p 0 σ_2 τ_2) (v := 0) S hr hlk hw rfl dX12_readsPlace_182 (Nat.le_of_ble_eq_true rfl) (Nat.le_of_ble_eq_true rfl) ⟨rfl, rfl, rfl⟩
set_option maxHeartbeats 4000000 in
set_option maxRecDepth 100000 in
theorem b_X12_readsPlace_0 (l : Launch) (S : CallFix P9 m9 C9 cX12_readsPlace 7 s av.toArray gx_G RX12) (hr : meth.sig.returnType = (some .boolean)) (hlk : meth.locks = false) (hK : gx_K E s) (N : Nat) (σ : gI) (τ : gJ) {r : Int32} {σ1 : gI} {τ1 : gJ} (h : B_X12_readsPlace_0 N σ τ = some (r, σ1, τ1)) {H : Heap} {locs : List Loc} {ls : Array Slot} (hw : gx_W gx_tb gx_tb.length E s σ τ H locs) (hl : lv_has ls 7 [(0, .ref (E.2.2 + 199))]) : W P9 l e9 (gx_rc 7 4 28) s m9 av.toArray below meth C9 H locs 0 0 (gc_Qi 4 28 below av s E r σ1 τ1) (F0 m9 0 ls []) := by
  have hx := S.1
  have hb := S.2.1
  unfold B_X12_readsPlace_0 at h
  refine lv_aload_n hx hb dX12_readsPlace_0 rfl (lv_at hl 0 rfl) ?_
  refine gx_get S hK hw t_199 cl_13 21 (by decide) rfl mw_1435 rfl dX12_readsPlace_1 ?_
  refine lv_istore_n (lv' := [(1, .int (σ 199 21)), (0, .ref (E.2.2 + 199))]) hx hb dX12_readsPlace_4 rfl hl (by decide) rfl (fun ls hl => ?_)
  obtain ⟨v_1, e_1, h⟩ := nm_some h
  have hl : lv_has ls 7 [(1, .int v_1), (0, .ref (E.2.2 + 199))] := by rw [e_1]; exact hl
  refine lv_iload_n hx hb dX12_readsPlace_5 rfl (lv_at hl 0 rfl) ?_
  refine lv_bipush (v := 12) hx hb dX12_readsPlace_6 (by decide) ?_
  refine lv_icmp_ne (tgt := 13) hx hb dX12_readsPlace_8 (by decide) (fun c_2 => ?_) (fun c_2 => ?_)
  · rw [if_neg c_2] at h
    refine lv_aload_n hx hb dX12_readsPlace_13 rfl (lv_at hl 1 rfl) ?_
    refine gx_lds S hK ss_9 rfl dX12_readsPlace_14 ?_
    obtain ⟨r_3, σ_3, τ_3, q_3, h⟩ := bd_some h
    refine zs_V (As := [.ref (E.1.2.1 9)]) (rest := []) S hK hw (zs_k hK hw zk_9) (c_X12_takesOf l (E := E) N sb_9 σ τ q_3) rfl cw_X12_183 (va_recv hK.1 hw.1 cl_13.1 (gx_at t_199)) ⟨Nat.le_of_ble_eq_true rfl, Nat.le_of_ble_eq_true rfl⟩ rfl hl.1 rfl (Nat.le_of_ble_eq_true rfl) ⟨Nat.le_of_ble_eq_true rfl, Nat.le_of_ble_eq_true rfl⟩ dX12_readsPlace_16 (fun r9 σ9 τ9 H locs hp hw => ?_)
    obtain ⟨rfl, rfl, rfl⟩ := hp
    refine lv_istore_n (lv' := [(2, .int r_3), (1, .int v_1), (0, .ref (E.2.2 + 199))]) hx hb dX12_readsPlace_19 rfl hl (by decide) rfl (fun ls hl => ?_)
    refine lv_iload_n hx hb dX12_readsPlace_20 rfl (lv_at hl 0 rfl) ?_
    refine lv_if_ge (tgt := 26) hx hb dX12_readsPlace_21 (by decide) (fun c_4 => ?_) (fun c_4 => ?_)
    · rw [if_pos c_4] at h
      refine lv_aload_n hx hb dX12_readsPlace_26 rfl (lv_at hl 2 rfl) ?_
      refine gx_getr (j := 209) S hK hw t_199 cl_13 17 (by decide) rfl mw_1431 rfl dX12_readsPlace_27 ?_
      refine lv_iload_n hx hb dX12_readsPlace_30 rfl (lv_at hl 1 rfl) ?_
      refine lv_iload_n hx hb dX12_readsPlace_31 rfl (lv_at hl 0 rfl) ?_
      obtain ⟨j_5, hj_5, hi_5, h⟩ := ck_some h
      refine gx_iast S hK gx_ok hw t_209 j_5 hj_5 hi_5 dX12_readsPlace_32 (fun H locs hw => ?_)
      obtain ⟨σ_6, e_6, h⟩ := nm_some h
      rw [← e_6] at hw
      refine lv_aload_n hx hb dX12_readsPlace_33 rfl (lv_at hl 2 rfl) ?_
      refine gx_getr (j := 210) S hK hw t_199 cl_13 18 (by decide) rfl mw_1432 rfl dX12_readsPlace_34 ?_
      refine lv_iload_n hx hb dX12_readsPlace_37 rfl (lv_at hl 1 rfl) ?_
      refine lv_iconst (v := (-1)) hx hb dX12_readsPlace_38 (by decide) ?_
      refine gx_iast S hK gx_ok hw t_210 j_5 hj_5 hi_5 dX12_readsPlace_39 (fun H locs hw => ?_)
      obtain ⟨σ_7, e_7, h⟩ := nm_some h
      rw [← e_7] at hw
      refine lv_aload_n hx hb dX12_readsPlace_40 rfl (lv_at hl 2 rfl) ?_
      refine gx_getr (j := 211) S hK hw t_199 cl_13 19 (by decide) rfl mw_1433 rfl dX12_readsPlace_41 ?_
      refine lv_iload_n hx hb dX12_readsPlace_44 rfl (lv_at hl 1 rfl) ?_
      refine lv_iconst (v := (-1)) hx hb dX12_readsPlace_45 (by decide) ?_
      refine gx_iast S hK gx_ok hw t_211 j_5 hj_5 hi_5 dX12_readsPlace_46 (fun H locs hw => ?_)
      obtain ⟨σ_8, e_8, h⟩ := nm_some h
      rw [← e_8] at hw
      refine lv_aload_n hx hb dX12_readsPlace_47 rfl (lv_at hl 2 rfl) ?_
      refine gx_getr (j := 212) S hK hw t_199 cl_13 20 (by decide) rfl mw_1434 rfl dX12_readsPlace_48 ?_
      refine lv_iload_n hx hb dX12_readsPlace_51 rfl (lv_at hl 1 rfl) ?_
      refine lv_iconst (v := 0) hx hb dX12_readsPlace_52 (by decide) ?_
      refine gx_iast S hK gx_ok hw t_212 j_5 hj_5 hi_5 dX12_readsPlace_53 (fun H locs hw => ?_)
      obtain ⟨σ_9, e_9, h⟩ := nm_some h
      rw [← e_9] at hw
      refine lv_aload_n hx hb dX12_readsPlace_54 rfl (lv_at hl 2 rfl) ?_
      refine lv_dup hx hb dX12_readsPlace_55 rfl ?_
      refine gx_get S hK hw t_199 cl_13 21 (by decide) rfl mw_1435 rfl dX12_readsPlace_56 ?_
      refine lv_iconst (v := 1) hx hb dX12_readsPlace_59 (by decide) ?_
      refine lv_iadd hx hb dX12_readsPlace_60 ?_
      refine gx_put S hK gx_ok hw t_199 cl_13 21 (by decide) rfl mw_1435 rfl rfl (ty := .int) (v := (σ_9 199 21) + 1) (by decide +kernel) rfl rfl dX12_readsPlace_61 (fun H locs hw => ?_)
      obtain ⟨σ_10, e_10, h⟩ := nm_some h
      rw [← e_10] at hw
      refine lv_iload_n hx hb dX12_readsPlace_64 rfl (lv_at hl 0 rfl) ?_
      refine lv_bipush (v := 6) hx hb dX12_readsPlace_65 (by decide) ?_
      refine lv_icmp_ne (tgt := 72) hx hb dX12_readsPlace_67 (by decide) (fun c_11 => ?_) (fun c_11 => ?_)
      · rw [if_neg c_11] at h
        refine lv_aload_n hx hb dX12_readsPlace_72 rfl (lv_at hl 2 rfl) ?_
        refine gx_getr (j := 210) S hK hw t_199 cl_13 18 (by decide) rfl mw_1432 rfl dX12_readsPlace_73 ?_
        refine lv_iload_n hx hb dX12_readsPlace_76 rfl (lv_at hl 1 rfl) ?_
        refine lv_aload_n hx hb dX12_readsPlace_77 rfl (lv_at hl 2 rfl) ?_
        obtain ⟨r_12, σ_12, τ_12, q_12, h⟩ := bd_some h
        refine gx_cVi (As := []) (rest := [.int v_1, .ref (E.2.2 + 210)]) S hK gx_ok hw (c_X12_readsLetter l (E := E) N σ_10 τ_3 q_12) cw_X12_194 t_199 cl_13 ⟨Nat.le_of_ble_eq_true rfl, Nat.le_of_ble_eq_true rfl⟩ rfl hl.1 rfl (Nat.le_of_ble_eq_true rfl) ⟨Nat.le_of_ble_eq_true rfl, Nat.le_of_ble_eq_true rfl⟩ dX12_readsPlace_78 (fun r9 σ9 τ9 H locs hp hw => ?_)
        obtain ⟨rfl, rfl, rfl⟩ := hp
        refine gx_iast S hK gx_ok hw t_210 j_5 hj_5 hi_5 dX12_readsPlace_81 (fun H locs hw => ?_)
        obtain ⟨σ_13, e_13, h⟩ := nm_some h
        rw [← e_13] at hw
        refine lv_aload_n hx hb dX12_readsPlace_82 rfl (lv_at hl 2 rfl) ?_
        refine gx_getr (j := 210) S hK hw t_199 cl_13 18 (by decide) rfl mw_1432 rfl dX12_readsPlace_83 ?_
        refine lv_iload_n hx hb dX12_readsPlace_86 rfl (lv_at hl 1 rfl) ?_
        refine gx_iald S hK hw t_210 j_5 hj_5 hi_5 dX12_readsPlace_87 ?_
        refine lv_if_lt (tgt := 95) hx hb dX12_readsPlace_88 (by decide) (fun c_14 => ?_) (fun c_14 => ?_)
        · rw [if_pos c_14] at h
          refine lv_aload_n hx hb dX12_readsPlace_95 rfl (lv_at hl 2 rfl) ?_
          refine gx_getr (j := 210) S hK hw t_199 cl_13 18 (by decide) rfl mw_1432 rfl dX12_readsPlace_96 ?_
          refine lv_iload_n hx hb dX12_readsPlace_99 rfl (lv_at hl 1 rfl) ?_
          refine gx_iald S hK hw t_210 j_5 hj_5 hi_5 dX12_readsPlace_100 ?_
          refine lv_if_lt (tgt := 108) hx hb dX12_readsPlace_101 (by decide) (fun c_15 => ?_) (fun c_15 => ?_)
          · rw [if_pos c_15] at h
            refine lv_iconst (v := 0) hx hb dX12_readsPlace_108 (by decide) ?_
            obtain ⟨rfl, rfl, rfl⟩ := sm_inj h
            exact gc_ri (post := gq_p 0 σ_13 τ_12) (v := 0) S hr hlk hw rfl dX12_readsPlace_109 (Nat.le_of_ble_eq_true rfl) (Nat.le_of_ble_eq_true rfl) ⟨rfl, rfl, rfl⟩
          · rw [if_neg c_15] at h
            refine lv_iconst (v := 1) hx hb dX12_readsPlace_104 (by decide) ?_
            refine lv_goto (tgt := 109) hx hb dX12_readsPlace_105 (by decide) ?_
            obtain ⟨rfl, rfl, rfl⟩ := sm_inj h
            exact gc_ri (post := gq_p 1 σ_13 τ_12) (v := 1) S hr hlk hw rfl dX12_readsPlace_109 (Nat.le_of_ble_eq_true rfl) (Nat.le_of_ble_eq_true rfl) ⟨rfl, rfl, rfl⟩
        · rw [if_neg c_14] at h
          refine lv_iload_n hx hb dX12_readsPlace_91 rfl (lv_at hl 0 rfl) ?_
          refine lv_if_ne (tgt := 110) hx hb dX12_readsPlace_92 (by decide) (fun c_16 => ?_) (fun c_16 => ?_)
          · rw [if_neg c_16] at h
            refine lv_iload_n hx hb dX12_readsPlace_110 rfl (lv_at hl 0 rfl) ?_
            refine lv_iconst (v := 1) hx hb dX12_readsPlace_111 (by decide) ?_
            refine lv_icmp_ne (tgt := 140) hx hb dX12_readsPlace_112 (by decide) (fun c_17 => ?_) (fun c_17 => ?_)
            · rw [if_neg c_17] at h
              refine gx_lds S hK ss_11 rfl dX12_readsPlace_140 ?_
              refine lv_astore_n (lv' := [(3, .ref (E.1.2.1 11)), (2, .int r_3), (1, .int v_1), (0, .ref (E.2.2 + 199))]) hx hb dX12_readsPlace_142 rfl hl (by decide) rfl (fun ls hl => ?_)
              refine lv_iload_n hx hb dX12_readsPlace_143 rfl (lv_at hl 1 rfl) ?_
              refine lv_iconst (v := 4) hx hb dX12_readsPlace_144 (by decide) ?_
              refine lv_icmp_ne (tgt := 152) hx hb dX12_readsPlace_145 (by decide) (fun c_18 => ?_) (fun c_18 => ?_)
              · rw [if_neg c_18] at h
                refine lv_iload_n hx hb dX12_readsPlace_152 rfl (lv_at hl 1 rfl) ?_
                refine lv_iconst (v := 5) hx hb dX12_readsPlace_153 (by decide) ?_
                refine lv_icmp_ne (tgt := 161) hx hb dX12_readsPlace_154 (by decide) (fun c_19 => ?_) (fun c_19 => ?_)
                · rw [if_neg c_19] at h
                  refine lv_iconst (v := 1) hx hb dX12_readsPlace_161 (by decide) ?_
                  exact b_X12_readsPlace_162 l S hr hlk hK N σ_13 τ_12 v_1 r_3 1 h hw (lv_sub hl [3, 2, 1, 0] rfl)
                · rw [if_pos c_19] at h
                  refine lv_iconst (v := 2) hx hb dX12_readsPlace_157 (by decide) ?_
                  refine lv_goto (tgt := 162) hx hb dX12_readsPlace_158 (by decide) ?_
                  exact b_X12_readsPlace_162 l S hr hlk hK N σ_13 τ_12 v_1 r_3 2 h hw (lv_sub hl [3, 2, 1, 0] rfl)
              · rw [if_pos c_18] at h
                refine lv_iconst (v := 0) hx hb dX12_readsPlace_148 (by decide) ?_
                refine lv_goto (tgt := 162) hx hb dX12_readsPlace_149 (by decide) ?_
                exact b_X12_readsPlace_162 l S hr hlk hK N σ_13 τ_12 v_1 r_3 0 h hw (lv_sub hl [3, 2, 1, 0] rfl)
            · rw [if_pos c_17] at h
              refine lv_aload_n hx hb dX12_readsPlace_115 rfl (lv_at hl 2 rfl) ?_
              refine gx_getr (j := 211) S hK hw t_199 cl_13 19 (by decide) rfl mw_1433 rfl dX12_readsPlace_116 ?_
              refine lv_iload_n hx hb dX12_readsPlace_119 rfl (lv_at hl 1 rfl) ?_
              refine lv_aload_n hx hb dX12_readsPlace_120 rfl (lv_at hl 2 rfl) ?_
              obtain ⟨r_20, σ_20, τ_20, q_20, h⟩ := bd_some h
              refine gx_cVi (As := []) (rest := [.int v_1, .ref (E.2.2 + 211)]) S hK gx_ok hw (c_X12_readsLetter l (E := E) N σ_13 τ_12 q_20) cw_X12_194 t_199 cl_13 ⟨Nat.le_of_ble_eq_true rfl, Nat.le_of_ble_eq_true rfl⟩ rfl hl.1 rfl (Nat.le_of_ble_eq_true rfl) ⟨Nat.le_of_ble_eq_true rfl, Nat.le_of_ble_eq_true rfl⟩ dX12_readsPlace_121 (fun r9 σ9 τ9 H locs hp hw => ?_)
              obtain ⟨rfl, rfl, rfl⟩ := hp
              refine gx_iast S hK gx_ok hw t_211 j_5 hj_5 hi_5 dX12_readsPlace_124 (fun H locs hw => ?_)
              obtain ⟨σ_21, e_21, h⟩ := nm_some h
              rw [← e_21] at hw
              refine lv_aload_n hx hb dX12_readsPlace_125 rfl (lv_at hl 2 rfl) ?_
              refine gx_getr (j := 211) S hK hw t_199 cl_13 19 (by decide) rfl mw_1433 rfl dX12_readsPlace_126 ?_
              refine lv_iload_n hx hb dX12_readsPlace_129 rfl (lv_at hl 1 rfl) ?_
              refine gx_iald S hK hw t_211 j_5 hj_5 hi_5 dX12_readsPlace_130 ?_
              refine lv_if_lt (tgt := 138) hx hb dX12_readsPlace_131 (by decide) (fun c_22 => ?_) (fun c_22 => ?_)
              · rw [if_pos c_22] at h
                refine lv_iconst (v := 0) hx hb dX12_readsPlace_138 (by decide) ?_
                obtain ⟨rfl, rfl, rfl⟩ := sm_inj h
                exact gc_ri (post := gq_p 0 σ_21 τ_20) (v := 0) S hr hlk hw rfl dX12_readsPlace_139 (Nat.le_of_ble_eq_true rfl) (Nat.le_of_ble_eq_true rfl) ⟨rfl, rfl, rfl⟩
              · rw [if_neg c_22] at h
                refine lv_iconst (v := 1) hx hb dX12_readsPlace_134 (by decide) ?_
                refine lv_goto (tgt := 139) hx hb dX12_readsPlace_135 (by decide) ?_
                obtain ⟨rfl, rfl, rfl⟩ := sm_inj h
                exact gc_ri (post := gq_p 1 σ_21 τ_20) (v := 1) S hr hlk hw rfl dX12_readsPlace_139 (Nat.le_of_ble_eq_true rfl) (Nat.le_of_ble_eq_true rfl) ⟨rfl, rfl, rfl⟩
          · rw [if_pos c_16] at h
            refine lv_aload_n hx hb dX12_readsPlace_95 rfl (lv_at hl 2 rfl) ?_
            refine gx_getr (j := 210) S hK hw t_199 cl_13 18 (by decide) rfl mw_1432 rfl dX12_readsPlace_96 ?_
            refine lv_iload_n hx hb dX12_readsPlace_99 rfl (lv_at hl 1 rfl) ?_
            refine gx_iald S hK hw t_210 j_5 hj_5 hi_5 dX12_readsPlace_100 ?_
            refine lv_if_lt (tgt := 108) hx hb dX12_readsPlace_101 (by decide) (fun c_23 => ?_) (fun c_23 => ?_)
            · rw [if_pos c_23] at h
              refine lv_iconst (v := 0) hx hb dX12_readsPlace_108 (by decide) ?_
              obtain ⟨rfl, rfl, rfl⟩ := sm_inj h
              exact gc_ri (post := gq_p 0 σ_13 τ_12) (v := 0) S hr hlk hw rfl dX12_readsPlace_109 (Nat.le_of_ble_eq_true rfl) (Nat.le_of_ble_eq_true rfl) ⟨rfl, rfl, rfl⟩
            · rw [if_neg c_23] at h
              refine lv_iconst (v := 1) hx hb dX12_readsPlace_104 (by decide) ?_
              refine lv_goto (tgt := 109) hx hb dX12_readsPlace_105 (by decide) ?_
              obtain ⟨rfl, rfl, rfl⟩ := sm_inj h
              exact gc_ri (post := gq_p 1 σ_13 τ_12) (v := 1) S hr hlk hw rfl dX12_readsPlace_109 (Nat.le_of_ble_eq_true rfl) (Nat.le_of_ble_eq_true rfl) ⟨rfl, rfl, rfl⟩
      · rw [if_pos c_11] at h
        refine lv_iconst (v := 1) hx hb dX12_readsPlace_70 (by decide) ?_
        obtain ⟨rfl, rfl, rfl⟩ := sm_inj h
        exact gc_ri (post := gq_p 1 σ_10 τ_3) (v := 1) S hr hlk hw rfl dX12_readsPlace_71 (Nat.le_of_ble_eq_true rfl) (Nat.le_of_ble_eq_true rfl) ⟨rfl, rfl, rfl⟩
    · rw [if_neg c_4] at h
      refine lv_iconst (v := 0) hx hb dX12_readsPlace_24 (by decide) ?_
      obtain ⟨rfl, rfl, rfl⟩ := sm_inj h
      exact gc_ri (post := gq_p 0 σ_3 τ_3) (v := 0) S hr hlk hw rfl dX12_readsPlace_25 (Nat.le_of_ble_eq_true rfl) (Nat.le_of_ble_eq_true rfl) ⟨rfl, rfl, rfl⟩
  · rw [if_pos c_2] at h
    refine lv_iconst (v := 0) hx hb dX12_readsPlace_11 (by decide) ?_
    obtain ⟨rfl, rfl, rfl⟩ := sm_inj h
    exact gc_ri (post := gq_p 0 σ τ) (v := 0) S hr hlk hw rfl dX12_readsPlace_12 (Nat.le_of_ble_eq_true rfl) (Nat.le_of_ble_eq_true rfl) ⟨rfl, rfl, rfl⟩
set_option maxHeartbeats 4000000 in
set_option maxRecDepth 100000 in
theorem c_X12_readsPlace (l : Launch) {E : gE} (N : Nat) (σ : gI) (τ : gJ) {r : Int32} {σ1 : gI} {τ1 : gJ} (h : B_X12_readsPlace_0 N σ τ = some (r, σ1, τ1)) : gx_Mk l yX12_readsPlace cX12_readsPlace 7 (some .boolean) 7 4 28 gx_tb E σ τ [.ref (E.2.2 + 199)] (gq_p r σ1 τ1) := by
  refine gc_bi (by decide +kernel) (Nat.le_of_ble_eq_true rfl) ?_
  intro P9 e9 s m9 below meth C9 S hr hlk hK hw ls hl
  have hl : lv_has ls 7 [(0, .ref (E.2.2 + 199))] := hl
  exact b_X12_readsPlace_0 l S hr hlk hK N σ τ h hw hl
def C_X12_town_244 (N : Nat) (rec_244 : gI → gJ → Int32 → Option (Int32 × gI × gJ)) (σ : gI) (τ : gJ) (x5 : Int32) : Option (Int32 × gI × gJ) := if 3 ≤ x5 then (some (σ 199 3, σ, τ)) else (ck x5 3 fun j_2 => nm (up2 σ 231 j_2 0) fun σ_3 => nm (x5 + 1) fun v_4 => rec_244 σ_3 τ v_4)
def H_X12_town_244 (N : Nat) : Nat → gI → gJ → Int32 → Option (Int32 × gI × gJ) := itn (fun rec_244 => C_X12_town_244 N rec_244) (fun _ _ _ => none)
def C_X12_town_210 (N : Nat) (rec_210 : gI → gJ → Int32 → Option (Int32 × gI × gJ)) (σ : gI) (τ : gJ) (x5 : Int32) : Option (Int32 × gI × gJ) := if 45 ≤ x5 then (nm (up2 σ 199 52 0) fun σ_2 => nm (up2 σ_2 199 36 0) fun σ_3 => H_X12_town_244 N N σ_3 τ 0) else (ck x5 45 fun j_4 => nm (up2 σ 206 j_4 0) fun σ_5 => nm (x5 + 1) fun v_6 => rec_210 σ_5 τ v_6)
def H_X12_town_210 (N : Nat) : Nat → gI → gJ → Int32 → Option (Int32 × gI × gJ) := itn (fun rec_210 => C_X12_town_210 N rec_210) (fun _ _ _ => none)
def C_X12_town_136 (N : Nat) (rec_136 : gI → gJ → Int32 → Option (Int32 × gI × gJ)) (σ : gI) (τ : gJ) (x5 : Int32) : Option (Int32 × gI × gJ) := if σ 199 3 ≤ x5 then (H_X12_town_210 N N σ τ 0) else (ck x5 12 fun j_2 => nm (up2 σ 201 j_2 (σ 209 j_2)) fun σ_3 => nm (up2 σ_3 202 j_2 (σ_3 210 j_2)) fun σ_4 => nm (up2 σ_4 203 j_2 (σ_4 211 j_2)) fun σ_5 => nm (up2 σ_5 204 j_2 (σ_5 212 j_2)) fun σ_6 => nm (x5 + 1) fun v_7 => rec_136 σ_6 τ v_7)
def H_X12_town_136 (N : Nat) : Nat → gI → gJ → Int32 → Option (Int32 × gI × gJ) := itn (fun rec_136 => C_X12_town_136 N rec_136) (fun _ _ _ => none)
def C_X12_town_86 (N : Nat) (rec_86 : gI → gJ → Int32 → Option (Int32 × gI × gJ)) (σ : gI) (τ : gJ) (x5 : Int32) : Option (Int32 × gI × gJ) := if σ 199 24 ≤ x5 then (nm (up2 σ 199 3 (σ 199 21)) fun σ_2 => H_X12_town_136 N N σ_2 τ 0) else (ck x5 80 fun j_3 => if σ 213 j_3 < σ 199 21 then (nm (x5 + 1) fun v_5 => rec_86 σ τ v_5) else (some ((-1) - (σ 214 j_3), σ, τ)))
def H_X12_town_86 (N : Nat) : Nat → gI → gJ → Int32 → Option (Int32 × gI × gJ) := itn (fun rec_86 => C_X12_town_86 N rec_86) (fun _ _ _ => none)
def C_X12_town_34 (N : Nat) (rec_34 : gI → gJ → Int32 → Int32 → Int32 → Option (Int32 × gI × gJ)) (σ : gI) (τ : gJ) (x1 : Int32) (x2 : Int32) (x3 : Int32) : Option (Int32 × gI × gJ) := if x3 = 0 then (bd (B_X12_faultOf_0 N σ τ x1 76 x2) fun r_2 σ_2 τ_2 => if 0 ≤ r_2 then (H_X12_town_86 N N σ_2 τ_2 0) else (some (r_2, σ_2, τ_2))) else (bd (B_X12_readsPlace_0 N σ τ) fun r_4 σ_4 τ_4 => if r_4 = 0 then (rec_34 σ_4 τ_4 x1 r_4 0) else (bd (B_X12_takes_0 N σ_4 τ_4 59) fun r_6 σ_6 τ_6 => if r_6 = 0 then (rec_34 σ_6 τ_6 x1 r_4 0) else (rec_34 σ_6 τ_6 x1 r_4 1)))
def H_X12_town_34 (N : Nat) : Nat → gI → gJ → Int32 → Int32 → Int32 → Option (Int32 × gI × gJ) := itn (fun rec_34 => C_X12_town_34 N rec_34) (fun _ _ _ _ _ => none)
def B_X12_town_0 (N : Nat) (σ : gI) (τ : gJ) : Option (Int32 × gI × gJ) := nm (up2 σ 199 0 0) fun σ_1 => bd (B_X12_begins_0 N σ_1 τ 76) fun r_2 σ_2 τ_2 => nm (up2 σ_2 199 21 0) fun σ_3 => nm (up2 σ_3 199 24 0) fun σ_4 => if r_2 ≤ 0 then (H_X12_town_34 N 14 σ_4 τ_2 r_2 1 0) else (H_X12_town_34 N 14 σ_4 τ_2 r_2 1 1)
set_option maxHeartbeats 4000000 in
set_option maxRecDepth 100000 in
theorem k_X12_town_244 (l : Launch) (S : CallFix P9 m9 C9 cX12_town 6 s av.toArray gx_G RX12) (hr : meth.sig.returnType = (some .int)) (hlk : meth.locks = false) (hK : gx_K E s) (N : Nat) (rec_244 : gI → gJ → Int32 → Option (Int32 × gI × gJ)) (hrec_244 : ∀ (σ : gI) (τ : gJ) (x5 : Int32) (r : Int32) (σ1 : gI) (τ1 : gJ) (H : Heap) (locs : List Loc) (ls : Array Slot), rec_244 σ τ x5 = some (r, σ1, τ1) → gx_W gx_tb gx_tb.length E s σ τ H locs → lv_has ls 6 [(0, .ref (E.2.2 + 199)), (5, .int x5)] → W P9 l e9 (gx_rc 8 56 392) s m9 av.toArray below meth C9 H locs 56 392 (gc_Qi 56 392 below av s E r σ1 τ1) (F0 m9 244 ls [])) (σ : gI) (τ : gJ) (x5 : Int32) {r : Int32} {σ1 : gI} {τ1 : gJ} (h : C_X12_town_244 N rec_244 σ τ x5 = some (r, σ1, τ1)) {H : Heap} {locs : List Loc} {ls : Array Slot} (hw : gx_W gx_tb gx_tb.length E s σ τ H locs) (hl : lv_has ls 6 [(0, .ref (E.2.2 + 199)), (5, .int x5)]) : W P9 l e9 (gx_rc 8 56 392) s m9 av.toArray below meth C9 H locs 56 392 (gc_Qi 56 392 below av s E r σ1 τ1) (F0 m9 244 ls []) := by
  have hx := S.1
  have hb := S.2.1
  unfold C_X12_town_244 at h
  refine lv_iload hx hb dX12_town_244 (lv_at hl 1 rfl) ?_
  refine lv_iconst (v := 3) hx hb dX12_town_246 (by decide) ?_
  refine lv_icmp_ge (tgt := 264) hx hb dX12_town_247 (by decide) (fun c_1 => ?_) (fun c_1 => ?_)
  · rw [if_pos c_1] at h
    refine lv_aload_n hx hb dX12_town_264 rfl (lv_at hl 0 rfl) ?_
    refine gx_get S hK hw t_199 cl_13 3 (by decide) rfl mw_1417 rfl dX12_town_265 ?_
    obtain ⟨rfl, rfl, rfl⟩ := sm_inj h
    exact gc_ri (post := gq_p (σ 199 3) σ τ) (v := σ 199 3) S hr hlk hw rfl dX12_town_268 (Nat.le_of_ble_eq_true rfl) (Nat.le_of_ble_eq_true rfl) ⟨rfl, rfl, rfl⟩
  · rw [if_neg c_1] at h
    refine lv_aload_n hx hb dX12_town_250 rfl (lv_at hl 0 rfl) ?_
    refine gx_getr (j := 231) S hK hw t_199 cl_13 58 (by decide) rfl mw_1472 rfl dX12_town_251 ?_
    refine lv_iload hx hb dX12_town_254 (lv_at hl 1 rfl) ?_
    refine lv_iconst (v := 0) hx hb dX12_town_256 (by decide) ?_
    obtain ⟨j_2, hj_2, hi_2, h⟩ := ck_some h
    refine gx_zast S hK gx_ok hw t_231 j_2 hj_2 hi_2 (by decide) dX12_town_257 (fun H locs hw => ?_)
    obtain ⟨σ_3, e_3, h⟩ := nm_some h
    rw [← e_3] at hw
    refine lv_iinc (v := x5 + 1) (lv' := [(5, .int (x5 + 1)), (0, .ref (E.2.2 + 199))]) hx hb dX12_town_258 hl (k := 1) rfl rfl (by decide) rfl (fun ls hl => ?_)
    obtain ⟨v_4, e_4, h⟩ := nm_some h
    have hl : lv_has ls 6 [(5, .int v_4), (0, .ref (E.2.2 + 199))] := by rw [e_4]; exact hl
    refine lv_goto (tgt := 244) hx hb dX12_town_261 (by decide) ?_
    exact hrec_244 σ_3 τ v_4 _ _ _ _ _ _ h hw (lv_sub hl [1, 0] rfl)
set_option maxHeartbeats 4000000 in
set_option maxRecDepth 100000 in
theorem h_X12_town_244 (l : Launch) (S : CallFix P9 m9 C9 cX12_town 6 s av.toArray gx_G RX12) (hr : meth.sig.returnType = (some .int)) (hlk : meth.locks = false) (hK : gx_K E s) (N : Nat) : ∀ (n : Nat) (σ : gI) (τ : gJ) (x5 : Int32) (r : Int32) (σ1 : gI) (τ1 : gJ), H_X12_town_244 N n σ τ x5 = some (r, σ1, τ1) → ∀ (H : Heap) (locs : List Loc) (ls : Array Slot), gx_W gx_tb gx_tb.length E s σ τ H locs → lv_has ls 6 [(0, .ref (E.2.2 + 199)), (5, .int x5)] → W P9 l e9 (gx_rc 8 56 392) s m9 av.toArray below meth C9 H locs 56 392 (gc_Qi 56 392 below av s E r σ1 τ1) (F0 m9 244 ls []) := by
  intro n
  induction n with
  | zero => intro σ τ x5 r σ1 τ1 h; cases h
  | succ n ih =>
    intro σ τ x5 r σ1 τ1 h H locs ls hw hl
    exact k_X12_town_244 l S hr hlk hK N (H_X12_town_244 N n) (fun σ τ x5 r σ1 τ1 H locs ls h hw hl => ih σ τ x5 r σ1 τ1 h H locs ls hw hl) σ τ x5 h hw hl
set_option maxHeartbeats 4000000 in
set_option maxRecDepth 100000 in
theorem k_X12_town_210 (l : Launch) (S : CallFix P9 m9 C9 cX12_town 6 s av.toArray gx_G RX12) (hr : meth.sig.returnType = (some .int)) (hlk : meth.locks = false) (hK : gx_K E s) (N : Nat) (rec_210 : gI → gJ → Int32 → Option (Int32 × gI × gJ)) (hrec_210 : ∀ (σ : gI) (τ : gJ) (x5 : Int32) (r : Int32) (σ1 : gI) (τ1 : gJ) (H : Heap) (locs : List Loc) (ls : Array Slot), rec_210 σ τ x5 = some (r, σ1, τ1) → gx_W gx_tb gx_tb.length E s σ τ H locs → lv_has ls 6 [(0, .ref (E.2.2 + 199)), (5, .int x5)] → W P9 l e9 (gx_rc 8 56 392) s m9 av.toArray below meth C9 H locs 56 392 (gc_Qi 56 392 below av s E r σ1 τ1) (F0 m9 210 ls [])) (σ : gI) (τ : gJ) (x5 : Int32) {r : Int32} {σ1 : gI} {τ1 : gJ} (h : C_X12_town_210 N rec_210 σ τ x5 = some (r, σ1, τ1)) {H : Heap} {locs : List Loc} {ls : Array Slot} (hw : gx_W gx_tb gx_tb.length E s σ τ H locs) (hl : lv_has ls 6 [(0, .ref (E.2.2 + 199)), (5, .int x5)]) : W P9 l e9 (gx_rc 8 56 392) s m9 av.toArray below meth C9 H locs 56 392 (gc_Qi 56 392 below av s E r σ1 τ1) (F0 m9 210 ls []) := by
  have hx := S.1
  have hb := S.2.1
  unfold C_X12_town_210 at h
  refine lv_iload hx hb dX12_town_210 (lv_at hl 1 rfl) ?_
  refine lv_bipush (v := 45) hx hb dX12_town_212 (by decide) ?_
  refine lv_icmp_ge (tgt := 231) hx hb dX12_town_214 (by decide) (fun c_1 => ?_) (fun c_1 => ?_)
  · rw [if_pos c_1] at h
    refine lv_aload_n hx hb dX12_town_231 rfl (lv_at hl 0 rfl) ?_
    refine lv_iconst (v := 0) hx hb dX12_town_232 (by decide) ?_
    refine gx_put S hK gx_ok hw t_199 cl_13 52 (by decide) rfl mw_1466 rfl rfl (ty := .int) (v := 0) (by decide +kernel) rfl rfl dX12_town_233 (fun H locs hw => ?_)
    obtain ⟨σ_2, e_2, h⟩ := nm_some h
    rw [← e_2] at hw
    refine lv_aload_n hx hb dX12_town_236 rfl (lv_at hl 0 rfl) ?_
    refine lv_iconst (v := 0) hx hb dX12_town_237 (by decide) ?_
    refine gx_put S hK gx_ok hw t_199 cl_13 36 (by decide) rfl mw_1450 rfl rfl (ty := .int) (v := 0) (by decide +kernel) rfl rfl dX12_town_238 (fun H locs hw => ?_)
    obtain ⟨σ_3, e_3, h⟩ := nm_some h
    rw [← e_3] at hw
    refine lv_iconst (v := 0) hx hb dX12_town_241 (by decide) ?_
    refine lv_istore (lv' := [(5, .int 0), (0, .ref (E.2.2 + 199))]) hx hb dX12_town_242 hl (by decide) rfl (fun ls hl => ?_)
    exact h_X12_town_244 l S hr hlk hK N N σ_3 τ 0 _ _ _ h _ _ _ hw (lv_sub hl [1, 0] rfl)
  · rw [if_neg c_1] at h
    refine lv_aload_n hx hb dX12_town_217 rfl (lv_at hl 0 rfl) ?_
    refine gx_getr (j := 206) S hK hw t_199 cl_13 10 (by decide) rfl mw_1424 rfl dX12_town_218 ?_
    refine lv_iload hx hb dX12_town_221 (lv_at hl 1 rfl) ?_
    refine lv_iconst (v := 0) hx hb dX12_town_223 (by decide) ?_
    obtain ⟨j_4, hj_4, hi_4, h⟩ := ck_some h
    refine gx_iast S hK gx_ok hw t_206 j_4 hj_4 hi_4 dX12_town_224 (fun H locs hw => ?_)
    obtain ⟨σ_5, e_5, h⟩ := nm_some h
    rw [← e_5] at hw
    refine lv_iinc (v := x5 + 1) (lv' := [(5, .int (x5 + 1)), (0, .ref (E.2.2 + 199))]) hx hb dX12_town_225 hl (k := 1) rfl rfl (by decide) rfl (fun ls hl => ?_)
    obtain ⟨v_6, e_6, h⟩ := nm_some h
    have hl : lv_has ls 6 [(5, .int v_6), (0, .ref (E.2.2 + 199))] := by rw [e_6]; exact hl
    refine lv_goto (tgt := 210) hx hb dX12_town_228 (by decide) ?_
    exact hrec_210 σ_5 τ v_6 _ _ _ _ _ _ h hw (lv_sub hl [1, 0] rfl)
set_option maxHeartbeats 4000000 in
set_option maxRecDepth 100000 in
theorem h_X12_town_210 (l : Launch) (S : CallFix P9 m9 C9 cX12_town 6 s av.toArray gx_G RX12) (hr : meth.sig.returnType = (some .int)) (hlk : meth.locks = false) (hK : gx_K E s) (N : Nat) : ∀ (n : Nat) (σ : gI) (τ : gJ) (x5 : Int32) (r : Int32) (σ1 : gI) (τ1 : gJ), H_X12_town_210 N n σ τ x5 = some (r, σ1, τ1) → ∀ (H : Heap) (locs : List Loc) (ls : Array Slot), gx_W gx_tb gx_tb.length E s σ τ H locs → lv_has ls 6 [(0, .ref (E.2.2 + 199)), (5, .int x5)] → W P9 l e9 (gx_rc 8 56 392) s m9 av.toArray below meth C9 H locs 56 392 (gc_Qi 56 392 below av s E r σ1 τ1) (F0 m9 210 ls []) := by
  intro n
  induction n with
  | zero => intro σ τ x5 r σ1 τ1 h; cases h
  | succ n ih =>
    intro σ τ x5 r σ1 τ1 h H locs ls hw hl
    exact k_X12_town_210 l S hr hlk hK N (H_X12_town_210 N n) (fun σ τ x5 r σ1 τ1 H locs ls h hw hl => ih σ τ x5 r σ1 τ1 h H locs ls hw hl) σ τ x5 h hw hl
set_option maxHeartbeats 4000000 in
set_option maxRecDepth 100000 in
theorem k_X12_town_136 (l : Launch) (S : CallFix P9 m9 C9 cX12_town 6 s av.toArray gx_G RX12) (hr : meth.sig.returnType = (some .int)) (hlk : meth.locks = false) (hK : gx_K E s) (N : Nat) (rec_136 : gI → gJ → Int32 → Option (Int32 × gI × gJ)) (hrec_136 : ∀ (σ : gI) (τ : gJ) (x5 : Int32) (r : Int32) (σ1 : gI) (τ1 : gJ) (H : Heap) (locs : List Loc) (ls : Array Slot), rec_136 σ τ x5 = some (r, σ1, τ1) → gx_W gx_tb gx_tb.length E s σ τ H locs → lv_has ls 6 [(0, .ref (E.2.2 + 199)), (5, .int x5)] → W P9 l e9 (gx_rc 8 56 392) s m9 av.toArray below meth C9 H locs 56 392 (gc_Qi 56 392 below av s E r σ1 τ1) (F0 m9 136 ls [])) (σ : gI) (τ : gJ) (x5 : Int32) {r : Int32} {σ1 : gI} {τ1 : gJ} (h : C_X12_town_136 N rec_136 σ τ x5 = some (r, σ1, τ1)) {H : Heap} {locs : List Loc} {ls : Array Slot} (hw : gx_W gx_tb gx_tb.length E s σ τ H locs) (hl : lv_has ls 6 [(0, .ref (E.2.2 + 199)), (5, .int x5)]) : W P9 l e9 (gx_rc 8 56 392) s m9 av.toArray below meth C9 H locs 56 392 (gc_Qi 56 392 below av s E r σ1 τ1) (F0 m9 136 ls []) := by
  have hx := S.1
  have hb := S.2.1
  unfold C_X12_town_136 at h
  refine lv_iload hx hb dX12_town_136 (lv_at hl 1 rfl) ?_
  refine lv_aload_n hx hb dX12_town_138 rfl (lv_at hl 0 rfl) ?_
  refine gx_get S hK hw t_199 cl_13 3 (by decide) rfl mw_1417 rfl dX12_town_139 ?_
  refine lv_icmp_ge (tgt := 207) hx hb dX12_town_142 (by decide) (fun c_1 => ?_) (fun c_1 => ?_)
  · rw [if_pos c_1] at h
    refine lv_iconst (v := 0) hx hb dX12_town_207 (by decide) ?_
    refine lv_istore (lv' := [(5, .int 0), (0, .ref (E.2.2 + 199))]) hx hb dX12_town_208 hl (by decide) rfl (fun ls hl => ?_)
    exact h_X12_town_210 l S hr hlk hK N N σ τ 0 _ _ _ h _ _ _ hw (lv_sub hl [1, 0] rfl)
  · rw [if_neg c_1] at h
    refine lv_aload_n hx hb dX12_town_145 rfl (lv_at hl 0 rfl) ?_
    refine gx_getr (j := 201) S hK hw t_199 cl_13 5 (by decide) rfl mw_1419 rfl dX12_town_146 ?_
    refine lv_iload hx hb dX12_town_149 (lv_at hl 1 rfl) ?_
    refine lv_aload_n hx hb dX12_town_151 rfl (lv_at hl 0 rfl) ?_
    refine gx_getr (j := 209) S hK hw t_199 cl_13 17 (by decide) rfl mw_1431 rfl dX12_town_152 ?_
    refine lv_iload hx hb dX12_town_155 (lv_at hl 1 rfl) ?_
    obtain ⟨j_2, hj_2, hi_2, h⟩ := ck_some h
    refine gx_iald S hK hw t_209 j_2 hj_2 hi_2 dX12_town_157 ?_
    refine gx_iast S hK gx_ok hw t_201 j_2 hj_2 hi_2 dX12_town_158 (fun H locs hw => ?_)
    obtain ⟨σ_3, e_3, h⟩ := nm_some h
    rw [← e_3] at hw
    refine lv_aload_n hx hb dX12_town_159 rfl (lv_at hl 0 rfl) ?_
    refine gx_getr (j := 202) S hK hw t_199 cl_13 6 (by decide) rfl mw_1420 rfl dX12_town_160 ?_
    refine lv_iload hx hb dX12_town_163 (lv_at hl 1 rfl) ?_
    refine lv_aload_n hx hb dX12_town_165 rfl (lv_at hl 0 rfl) ?_
    refine gx_getr (j := 210) S hK hw t_199 cl_13 18 (by decide) rfl mw_1432 rfl dX12_town_166 ?_
    refine lv_iload hx hb dX12_town_169 (lv_at hl 1 rfl) ?_
    refine gx_iald S hK hw t_210 j_2 hj_2 hi_2 dX12_town_171 ?_
    refine gx_iast S hK gx_ok hw t_202 j_2 hj_2 hi_2 dX12_town_172 (fun H locs hw => ?_)
    obtain ⟨σ_4, e_4, h⟩ := nm_some h
    rw [← e_4] at hw
    refine lv_aload_n hx hb dX12_town_173 rfl (lv_at hl 0 rfl) ?_
    refine gx_getr (j := 203) S hK hw t_199 cl_13 7 (by decide) rfl mw_1421 rfl dX12_town_174 ?_
    refine lv_iload hx hb dX12_town_177 (lv_at hl 1 rfl) ?_
    refine lv_aload_n hx hb dX12_town_179 rfl (lv_at hl 0 rfl) ?_
    refine gx_getr (j := 211) S hK hw t_199 cl_13 19 (by decide) rfl mw_1433 rfl dX12_town_180 ?_
    refine lv_iload hx hb dX12_town_183 (lv_at hl 1 rfl) ?_
    refine gx_iald S hK hw t_211 j_2 hj_2 hi_2 dX12_town_185 ?_
    refine gx_iast S hK gx_ok hw t_203 j_2 hj_2 hi_2 dX12_town_186 (fun H locs hw => ?_)
    obtain ⟨σ_5, e_5, h⟩ := nm_some h
    rw [← e_5] at hw
    refine lv_aload_n hx hb dX12_town_187 rfl (lv_at hl 0 rfl) ?_
    refine gx_getr (j := 204) S hK hw t_199 cl_13 8 (by decide) rfl mw_1422 rfl dX12_town_188 ?_
    refine lv_iload hx hb dX12_town_191 (lv_at hl 1 rfl) ?_
    refine lv_aload_n hx hb dX12_town_193 rfl (lv_at hl 0 rfl) ?_
    refine gx_getr (j := 212) S hK hw t_199 cl_13 20 (by decide) rfl mw_1434 rfl dX12_town_194 ?_
    refine lv_iload hx hb dX12_town_197 (lv_at hl 1 rfl) ?_
    refine gx_iald S hK hw t_212 j_2 hj_2 hi_2 dX12_town_199 ?_
    refine gx_iast S hK gx_ok hw t_204 j_2 hj_2 hi_2 dX12_town_200 (fun H locs hw => ?_)
    obtain ⟨σ_6, e_6, h⟩ := nm_some h
    rw [← e_6] at hw
    refine lv_iinc (v := x5 + 1) (lv' := [(5, .int (x5 + 1)), (0, .ref (E.2.2 + 199))]) hx hb dX12_town_201 hl (k := 1) rfl rfl (by decide) rfl (fun ls hl => ?_)
    obtain ⟨v_7, e_7, h⟩ := nm_some h
    have hl : lv_has ls 6 [(5, .int v_7), (0, .ref (E.2.2 + 199))] := by rw [e_7]; exact hl
    refine lv_goto (tgt := 136) hx hb dX12_town_204 (by decide) ?_
    exact hrec_136 σ_6 τ v_7 _ _ _ _ _ _ h hw (lv_sub hl [1, 0] rfl)
set_option maxHeartbeats 4000000 in
set_option maxRecDepth 100000 in
theorem h_X12_town_136 (l : Launch) (S : CallFix P9 m9 C9 cX12_town 6 s av.toArray gx_G RX12) (hr : meth.sig.returnType = (some .int)) (hlk : meth.locks = false) (hK : gx_K E s) (N : Nat) : ∀ (n : Nat) (σ : gI) (τ : gJ) (x5 : Int32) (r : Int32) (σ1 : gI) (τ1 : gJ), H_X12_town_136 N n σ τ x5 = some (r, σ1, τ1) → ∀ (H : Heap) (locs : List Loc) (ls : Array Slot), gx_W gx_tb gx_tb.length E s σ τ H locs → lv_has ls 6 [(0, .ref (E.2.2 + 199)), (5, .int x5)] → W P9 l e9 (gx_rc 8 56 392) s m9 av.toArray below meth C9 H locs 56 392 (gc_Qi 56 392 below av s E r σ1 τ1) (F0 m9 136 ls []) := by
  intro n
  induction n with
  | zero => intro σ τ x5 r σ1 τ1 h; cases h
  | succ n ih =>
    intro σ τ x5 r σ1 τ1 h H locs ls hw hl
    exact k_X12_town_136 l S hr hlk hK N (H_X12_town_136 N n) (fun σ τ x5 r σ1 τ1 H locs ls h hw hl => ih σ τ x5 r σ1 τ1 h H locs ls hw hl) σ τ x5 h hw hl
set_option maxHeartbeats 4000000 in
set_option maxRecDepth 100000 in
theorem k_X12_town_86 (l : Launch) (S : CallFix P9 m9 C9 cX12_town 6 s av.toArray gx_G RX12) (hr : meth.sig.returnType = (some .int)) (hlk : meth.locks = false) (hK : gx_K E s) (N : Nat) (rec_86 : gI → gJ → Int32 → Option (Int32 × gI × gJ)) (hrec_86 : ∀ (σ : gI) (τ : gJ) (x5 : Int32) (r : Int32) (σ1 : gI) (τ1 : gJ) (H : Heap) (locs : List Loc) (ls : Array Slot), rec_86 σ τ x5 = some (r, σ1, τ1) → gx_W gx_tb gx_tb.length E s σ τ H locs → lv_has ls 6 [(0, .ref (E.2.2 + 199)), (5, .int x5)] → W P9 l e9 (gx_rc 8 56 392) s m9 av.toArray below meth C9 H locs 56 392 (gc_Qi 56 392 below av s E r σ1 τ1) (F0 m9 86 ls [])) (σ : gI) (τ : gJ) (x5 : Int32) {r : Int32} {σ1 : gI} {τ1 : gJ} (h : C_X12_town_86 N rec_86 σ τ x5 = some (r, σ1, τ1)) {H : Heap} {locs : List Loc} {ls : Array Slot} (hw : gx_W gx_tb gx_tb.length E s σ τ H locs) (hl : lv_has ls 6 [(0, .ref (E.2.2 + 199)), (5, .int x5)]) : W P9 l e9 (gx_rc 8 56 392) s m9 av.toArray below meth C9 H locs 56 392 (gc_Qi 56 392 below av s E r σ1 τ1) (F0 m9 86 ls []) := by
  have hx := S.1
  have hb := S.2.1
  unfold C_X12_town_86 at h
  refine lv_iload hx hb dX12_town_86 (lv_at hl 1 rfl) ?_
  refine lv_aload_n hx hb dX12_town_88 rfl (lv_at hl 0 rfl) ?_
  refine gx_get S hK hw t_199 cl_13 24 (by decide) rfl mw_1438 rfl dX12_town_89 ?_
  refine lv_icmp_ge (tgt := 125) hx hb dX12_town_92 (by decide) (fun c_1 => ?_) (fun c_1 => ?_)
  · rw [if_pos c_1] at h
    refine lv_aload_n hx hb dX12_town_125 rfl (lv_at hl 0 rfl) ?_
    refine lv_aload_n hx hb dX12_town_126 rfl (lv_at hl 0 rfl) ?_
    refine gx_get S hK hw t_199 cl_13 21 (by decide) rfl mw_1435 rfl dX12_town_127 ?_
    refine gx_put S hK gx_ok hw t_199 cl_13 3 (by decide) rfl mw_1417 rfl rfl (ty := .int) (v := σ 199 21) (by decide +kernel) rfl rfl dX12_town_130 (fun H locs hw => ?_)
    obtain ⟨σ_2, e_2, h⟩ := nm_some h
    rw [← e_2] at hw
    refine lv_iconst (v := 0) hx hb dX12_town_133 (by decide) ?_
    refine lv_istore (lv' := [(5, .int 0), (0, .ref (E.2.2 + 199))]) hx hb dX12_town_134 hl (by decide) rfl (fun ls hl => ?_)
    exact h_X12_town_136 l S hr hlk hK N N σ_2 τ 0 _ _ _ h _ _ _ hw (lv_sub hl [1, 0] rfl)
  · rw [if_neg c_1] at h
    refine lv_aload_n hx hb dX12_town_95 rfl (lv_at hl 0 rfl) ?_
    refine gx_getr (j := 213) S hK hw t_199 cl_13 22 (by decide) rfl mw_1436 rfl dX12_town_96 ?_
    refine lv_iload hx hb dX12_town_99 (lv_at hl 1 rfl) ?_
    obtain ⟨j_3, hj_3, hi_3, h⟩ := ck_some h
    refine gx_iald S hK hw t_213 j_3 hj_3 hi_3 dX12_town_101 ?_
    refine lv_aload_n hx hb dX12_town_102 rfl (lv_at hl 0 rfl) ?_
    refine gx_get S hK hw t_199 cl_13 21 (by decide) rfl mw_1435 rfl dX12_town_103 ?_
    refine lv_icmp_lt (tgt := 119) hx hb dX12_town_106 (by decide) (fun c_4 => ?_) (fun c_4 => ?_)
    · rw [if_pos c_4] at h
      refine lv_iinc (v := x5 + 1) (lv' := [(5, .int (x5 + 1)), (0, .ref (E.2.2 + 199))]) hx hb dX12_town_119 hl (k := 1) rfl rfl (by decide) rfl (fun ls hl => ?_)
      obtain ⟨v_5, e_5, h⟩ := nm_some h
      have hl : lv_has ls 6 [(5, .int v_5), (0, .ref (E.2.2 + 199))] := by rw [e_5]; exact hl
      refine lv_goto (tgt := 86) hx hb dX12_town_122 (by decide) ?_
      exact hrec_86 σ τ v_5 _ _ _ _ _ _ h hw (lv_sub hl [1, 0] rfl)
    · rw [if_neg c_4] at h
      refine lv_iconst (v := (-1)) hx hb dX12_town_109 (by decide) ?_
      refine lv_aload_n hx hb dX12_town_110 rfl (lv_at hl 0 rfl) ?_
      refine gx_getr (j := 214) S hK hw t_199 cl_13 23 (by decide) rfl mw_1437 rfl dX12_town_111 ?_
      refine lv_iload hx hb dX12_town_114 (lv_at hl 1 rfl) ?_
      refine gx_iald S hK hw t_214 j_3 hj_3 hi_3 dX12_town_116 ?_
      refine lv_isub hx hb dX12_town_117 ?_
      obtain ⟨rfl, rfl, rfl⟩ := sm_inj h
      exact gc_ri (post := gq_p ((-1) - (σ 214 j_3)) σ τ) (v := (-1) - (σ 214 j_3)) S hr hlk hw rfl dX12_town_118 (Nat.le_of_ble_eq_true rfl) (Nat.le_of_ble_eq_true rfl) ⟨rfl, rfl, rfl⟩
set_option maxHeartbeats 4000000 in
set_option maxRecDepth 100000 in
theorem h_X12_town_86 (l : Launch) (S : CallFix P9 m9 C9 cX12_town 6 s av.toArray gx_G RX12) (hr : meth.sig.returnType = (some .int)) (hlk : meth.locks = false) (hK : gx_K E s) (N : Nat) : ∀ (n : Nat) (σ : gI) (τ : gJ) (x5 : Int32) (r : Int32) (σ1 : gI) (τ1 : gJ), H_X12_town_86 N n σ τ x5 = some (r, σ1, τ1) → ∀ (H : Heap) (locs : List Loc) (ls : Array Slot), gx_W gx_tb gx_tb.length E s σ τ H locs → lv_has ls 6 [(0, .ref (E.2.2 + 199)), (5, .int x5)] → W P9 l e9 (gx_rc 8 56 392) s m9 av.toArray below meth C9 H locs 56 392 (gc_Qi 56 392 below av s E r σ1 τ1) (F0 m9 86 ls []) := by
  intro n
  induction n with
  | zero => intro σ τ x5 r σ1 τ1 h; cases h
  | succ n ih =>
    intro σ τ x5 r σ1 τ1 h H locs ls hw hl
    exact k_X12_town_86 l S hr hlk hK N (H_X12_town_86 N n) (fun σ τ x5 r σ1 τ1 H locs ls h hw hl => ih σ τ x5 r σ1 τ1 h H locs ls hw hl) σ τ x5 h hw hl
set_option maxHeartbeats 4000000 in
set_option maxRecDepth 100000 in
theorem k_X12_town_34 (l : Launch) (S : CallFix P9 m9 C9 cX12_town 6 s av.toArray gx_G RX12) (hr : meth.sig.returnType = (some .int)) (hlk : meth.locks = false) (hK : gx_K E s) (N : Nat) (rec_34 : gI → gJ → Int32 → Int32 → Int32 → Option (Int32 × gI × gJ)) (n9 : Nat) (hrec_34 : ∀ (cells slots : Nat), cells + 4 * n9 ≤ 56 → slots + 28 * n9 ≤ 392 → ∀ (σ : gI) (τ : gJ) (x1 : Int32) (x2 : Int32) (x3 : Int32) (r : Int32) (σ1 : gI) (τ1 : gJ) (H : Heap) (locs : List Loc) (ls : Array Slot), rec_34 σ τ x1 x2 x3 = some (r, σ1, τ1) → gx_W gx_tb gx_tb.length E s σ τ H locs → lv_has ls 6 [(0, .ref (E.2.2 + 199)), (1, .int x1), (2, .int x2), (3, .int x3)] → W P9 l e9 (gx_rc 8 56 392) s m9 av.toArray below meth C9 H locs cells slots (gc_Qi 56 392 below av s E r σ1 τ1) (F0 m9 34 ls [])) (σ : gI) (τ : gJ) (x1 : Int32) (x2 : Int32) (x3 : Int32) {r : Int32} {σ1 : gI} {τ1 : gJ} (h : C_X12_town_34 N rec_34 σ τ x1 x2 x3 = some (r, σ1, τ1)) {cells slots : Nat} (hc9 : cells + 4 * (n9 + 1) ≤ 56) (hs9 : slots + 28 * (n9 + 1) ≤ 392) {H : Heap} {locs : List Loc} {ls : Array Slot} (hw : gx_W gx_tb gx_tb.length E s σ τ H locs) (hl : lv_has ls 6 [(0, .ref (E.2.2 + 199)), (1, .int x1), (2, .int x2), (3, .int x3)]) : W P9 l e9 (gx_rc 8 56 392) s m9 av.toArray below meth C9 H locs cells slots (gc_Qi 56 392 below av s E r σ1 τ1) (F0 m9 34 ls []) := by
  have hx := S.1
  have hb := S.2.1
  unfold C_X12_town_34 at h
  refine lv_iload_n hx hb dX12_town_34 rfl (lv_at hl 3 rfl) ?_
  refine lv_if_eq (tgt := 65) hx hb dX12_town_35 (by decide) (fun c_1 => ?_) (fun c_1 => ?_)
  · rw [if_pos c_1] at h
    refine lv_aload_n hx hb dX12_town_65 rfl (lv_at hl 0 rfl) ?_
    refine lv_iload_n hx hb dX12_town_66 rfl (lv_at hl 1 rfl) ?_
    refine lv_bipush (v := 76) hx hb dX12_town_67 (by decide) ?_
    refine lv_iload_n hx hb dX12_town_69 rfl (lv_at hl 2 rfl) ?_
    obtain ⟨r_2, σ_2, τ_2, q_2, h⟩ := bd_some h
    refine gx_cVi (As := [.int x1, .int 76, .int x2]) (rest := []) S hK gx_ok hw (c_X12_faultOf l (E := E) N σ τ x1 76 x2 q_2) cw_X12_213 t_199 cl_13 ⟨Nat.le_of_ble_eq_true rfl, Nat.le_of_ble_eq_true rfl⟩ rfl hl.1 rfl (Nat.le_of_ble_eq_true rfl) ⟨by show _ ≤ 56; omega, by show _ ≤ 392; omega⟩ dX12_town_70 (fun r9 σ9 τ9 H locs hp hw => ?_)
    obtain ⟨rfl, rfl, rfl⟩ := hp
    refine lv_istore (lv' := [(4, .int r_2), (0, .ref (E.2.2 + 199)), (1, .int x1), (2, .int x2), (3, .int x3)]) hx hb dX12_town_73 hl (by decide) rfl (fun ls hl => ?_)
    refine lv_iload hx hb dX12_town_75 (lv_at hl 0 rfl) ?_
    refine lv_if_ge (tgt := 83) hx hb dX12_town_77 (by decide) (fun c_3 => ?_) (fun c_3 => ?_)
    · rw [if_pos c_3] at h
      refine lv_iconst (v := 0) hx hb dX12_town_83 (by decide) ?_
      refine lv_istore (lv' := [(5, .int 0), (4, .int r_2), (0, .ref (E.2.2 + 199)), (1, .int x1), (2, .int x2), (3, .int x3)]) hx hb dX12_town_84 hl (by decide) rfl (fun ls hl => ?_)
      refine W.widen (k := 56) (n := 392) (by omega) (by omega) ?_
      exact h_X12_town_86 l S hr hlk hK N N σ_2 τ_2 0 _ _ _ h _ _ _ hw (lv_sub hl [2, 0] rfl)
    · rw [if_neg c_3] at h
      refine lv_iload hx hb dX12_town_80 (lv_at hl 0 rfl) ?_
      obtain ⟨rfl, rfl, rfl⟩ := sm_inj h
      exact gc_ri (post := gq_p r_2 σ_2 τ_2) (v := r_2) S hr hlk hw rfl dX12_town_82 (by omega) (by omega) ⟨rfl, rfl, rfl⟩
  · rw [if_neg c_1] at h
    refine lv_aload_n hx hb dX12_town_38 rfl (lv_at hl 0 rfl) ?_
    obtain ⟨r_4, σ_4, τ_4, q_4, h⟩ := bd_some h
    refine gc_cVi (As := []) (rest := []) S hK gx_ok hw (c_X12_readsPlace l (E := E) N σ τ q_4) cw_X12_207 t_199 cl_13 ⟨Nat.le_of_ble_eq_true rfl, Nat.le_of_ble_eq_true rfl⟩ rfl hl.1 rfl (Nat.le_of_ble_eq_true rfl) ⟨by show _ ≤ 56; omega, by show _ ≤ 392; omega⟩ dX12_town_39 (fun r9 σ9 τ9 H locs hp hw => ?_)
    obtain ⟨rfl, rfl, rfl⟩ := hp
    refine lv_istore_n (lv' := [(2, .int r_4), (0, .ref (E.2.2 + 199)), (1, .int x1), (3, .int x3)]) hx hb dX12_town_42 rfl hl (by decide) rfl (fun ls hl => ?_)
    refine lv_iload_n hx hb dX12_town_43 rfl (lv_at hl 0 rfl) ?_
    refine lv_if_eq (tgt := 60) hx hb dX12_town_44 (by decide) (fun c_5 => ?_) (fun c_5 => ?_)
    · rw [if_pos c_5] at h
      refine lv_iconst (v := 0) hx hb dX12_town_60 (by decide) ?_
      refine lv_istore_n (lv' := [(3, .int 0), (2, .int r_4), (0, .ref (E.2.2 + 199)), (1, .int x1)]) hx hb dX12_town_61 rfl hl (by decide) rfl (fun ls hl => ?_)
      refine lv_goto (tgt := 34) hx hb dX12_town_62 (by decide) ?_
      exact hrec_34 _ _ (by omega) (by omega) σ_4 τ_4 x1 r_4 0 _ _ _ _ _ _ h hw (lv_sub hl [2, 3, 1, 0] rfl)
    · rw [if_neg c_5] at h
      refine lv_aload_n hx hb dX12_town_47 rfl (lv_at hl 1 rfl) ?_
      refine lv_bipush (v := 59) hx hb dX12_town_48 (by decide) ?_
      obtain ⟨r_6, σ_6, τ_6, q_6, h⟩ := bd_some h
      refine gx_cVi (As := [.int 59]) (rest := []) S hK gx_ok hw (c_X12_takes l (E := E) N σ_4 τ_4 59 q_6) cw_X12_210 t_199 cl_13 ⟨Nat.le_of_ble_eq_true rfl, Nat.le_of_ble_eq_true rfl⟩ rfl hl.1 rfl (Nat.le_of_ble_eq_true rfl) ⟨by show _ ≤ 56; omega, by show _ ≤ 392; omega⟩ dX12_town_50 (fun r9 σ9 τ9 H locs hp hw => ?_)
      obtain ⟨rfl, rfl, rfl⟩ := hp
      refine lv_if_eq (tgt := 60) hx hb dX12_town_53 (by decide) (fun c_7 => ?_) (fun c_7 => ?_)
      · rw [if_pos c_7] at h
        refine lv_iconst (v := 0) hx hb dX12_town_60 (by decide) ?_
        refine lv_istore_n (lv' := [(3, .int 0), (2, .int r_4), (0, .ref (E.2.2 + 199)), (1, .int x1)]) hx hb dX12_town_61 rfl hl (by decide) rfl (fun ls hl => ?_)
        refine lv_goto (tgt := 34) hx hb dX12_town_62 (by decide) ?_
        exact hrec_34 _ _ (by omega) (by omega) σ_6 τ_6 x1 r_4 0 _ _ _ _ _ _ h hw (lv_sub hl [2, 3, 1, 0] rfl)
      · rw [if_neg c_7] at h
        refine lv_iconst (v := 1) hx hb dX12_town_56 (by decide) ?_
        refine lv_goto (tgt := 61) hx hb dX12_town_57 (by decide) ?_
        refine lv_istore_n (lv' := [(3, .int 1), (2, .int r_4), (0, .ref (E.2.2 + 199)), (1, .int x1)]) hx hb dX12_town_61 rfl hl (by decide) rfl (fun ls hl => ?_)
        refine lv_goto (tgt := 34) hx hb dX12_town_62 (by decide) ?_
        exact hrec_34 _ _ (by omega) (by omega) σ_6 τ_6 x1 r_4 1 _ _ _ _ _ _ h hw (lv_sub hl [2, 3, 1, 0] rfl)
set_option maxHeartbeats 4000000 in
set_option maxRecDepth 100000 in
theorem h_X12_town_34 (l : Launch) (S : CallFix P9 m9 C9 cX12_town 6 s av.toArray gx_G RX12) (hr : meth.sig.returnType = (some .int)) (hlk : meth.locks = false) (hK : gx_K E s) (N : Nat) : ∀ (n : Nat) (σ : gI) (τ : gJ) (x1 : Int32) (x2 : Int32) (x3 : Int32) (r : Int32) (σ1 : gI) (τ1 : gJ), H_X12_town_34 N n σ τ x1 x2 x3 = some (r, σ1, τ1) → ∀ (cells slots : Nat), cells + 4 * n ≤ 56 → slots + 28 * n ≤ 392 → ∀ (H : Heap) (locs : List Loc) (ls : Array Slot), gx_W gx_tb gx_tb.length E s σ τ H locs → lv_has ls 6 [(0, .ref (E.2.2 + 199)), (1, .int x1), (2, .int x2), (3, .int x3)] → W P9 l e9 (gx_rc 8 56 392) s m9 av.toArray below meth C9 H locs cells slots (gc_Qi 56 392 below av s E r σ1 τ1) (F0 m9 34 ls []) := by
  intro n
  induction n with
  | zero => intro σ τ x1 x2 x3 r σ1 τ1 h; cases h
  | succ n ih =>
    intro σ τ x1 x2 x3 r σ1 τ1 h cells slots hc9 hs9 H locs ls hw hl
    exact k_X12_town_34 l S hr hlk hK N (H_X12_town_34 N n) n (fun cells slots hc9 hs9 σ τ x1 x2 x3 r σ1 τ1 H locs ls h hw hl => ih σ τ x1 x2 x3 r σ1 τ1 h cells slots hc9 hs9 H locs ls hw hl) σ τ x1 x2 x3 h hc9 hs9 hw hl
set_option maxHeartbeats 4000000 in
set_option maxRecDepth 100000 in
theorem b_X12_town_0 (l : Launch) (S : CallFix P9 m9 C9 cX12_town 6 s av.toArray gx_G RX12) (hr : meth.sig.returnType = (some .int)) (hlk : meth.locks = false) (hK : gx_K E s) (N : Nat) (σ : gI) (τ : gJ) {r : Int32} {σ1 : gI} {τ1 : gJ} (h : B_X12_town_0 N σ τ = some (r, σ1, τ1)) {H : Heap} {locs : List Loc} {ls : Array Slot} (hw : gx_W gx_tb gx_tb.length E s σ τ H locs) (hl : lv_has ls 6 [(0, .ref (E.2.2 + 199))]) : W P9 l e9 (gx_rc 8 56 392) s m9 av.toArray below meth C9 H locs 0 0 (gc_Qi 56 392 below av s E r σ1 τ1) (F0 m9 0 ls []) := by
  have hx := S.1
  have hb := S.2.1
  unfold B_X12_town_0 at h
  refine lv_aload_n hx hb dX12_town_0 rfl (lv_at hl 0 rfl) ?_
  refine lv_iconst (v := 0) hx hb dX12_town_1 (by decide) ?_
  refine gx_put S hK gx_ok hw t_199 cl_13 0 (by decide) rfl mw_1414 rfl rfl (ty := .int) (v := 0) (by decide +kernel) rfl rfl dX12_town_2 (fun H locs hw => ?_)
  obtain ⟨σ_1, e_1, h⟩ := nm_some h
  rw [← e_1] at hw
  refine lv_aload_n hx hb dX12_town_5 rfl (lv_at hl 0 rfl) ?_
  refine lv_bipush (v := 76) hx hb dX12_town_6 (by decide) ?_
  obtain ⟨r_2, σ_2, τ_2, q_2, h⟩ := bd_some h
  refine gx_cVi (As := [.int 76]) (rest := []) S hK gx_ok hw (c_X12_begins l (E := E) N σ_1 τ 76 q_2) cw_X12_203 t_199 cl_13 ⟨Nat.le_of_ble_eq_true rfl, Nat.le_of_ble_eq_true rfl⟩ rfl hl.1 rfl (Nat.le_of_ble_eq_true rfl) ⟨Nat.le_of_ble_eq_true rfl, Nat.le_of_ble_eq_true rfl⟩ dX12_town_8 (fun r9 σ9 τ9 H locs hp hw => ?_)
  obtain ⟨rfl, rfl, rfl⟩ := hp
  refine lv_istore_n (lv' := [(1, .int r_2), (0, .ref (E.2.2 + 199))]) hx hb dX12_town_11 rfl hl (by decide) rfl (fun ls hl => ?_)
  refine lv_aload_n hx hb dX12_town_12 rfl (lv_at hl 1 rfl) ?_
  refine lv_iconst (v := 0) hx hb dX12_town_13 (by decide) ?_
  refine gx_put S hK gx_ok hw t_199 cl_13 21 (by decide) rfl mw_1435 rfl rfl (ty := .int) (v := 0) (by decide +kernel) rfl rfl dX12_town_14 (fun H locs hw => ?_)
  obtain ⟨σ_3, e_3, h⟩ := nm_some h
  rw [← e_3] at hw
  refine lv_aload_n hx hb dX12_town_17 rfl (lv_at hl 1 rfl) ?_
  refine lv_iconst (v := 0) hx hb dX12_town_18 (by decide) ?_
  refine gx_put S hK gx_ok hw t_199 cl_13 24 (by decide) rfl mw_1438 rfl rfl (ty := .int) (v := 0) (by decide +kernel) rfl rfl dX12_town_19 (fun H locs hw => ?_)
  obtain ⟨σ_4, e_4, h⟩ := nm_some h
  rw [← e_4] at hw
  refine lv_iconst (v := 1) hx hb dX12_town_22 (by decide) ?_
  refine lv_istore_n (lv' := [(2, .int 1), (1, .int r_2), (0, .ref (E.2.2 + 199))]) hx hb dX12_town_23 rfl hl (by decide) rfl (fun ls hl => ?_)
  refine lv_iload_n hx hb dX12_town_24 rfl (lv_at hl 1 rfl) ?_
  refine lv_if_le (tgt := 32) hx hb dX12_town_25 (by decide) (fun c_5 => ?_) (fun c_5 => ?_)
  · rw [if_pos c_5] at h
    refine lv_iconst (v := 0) hx hb dX12_town_32 (by decide) ?_
    refine lv_istore_n (lv' := [(3, .int 0), (2, .int 1), (1, .int r_2), (0, .ref (E.2.2 + 199))]) hx hb dX12_town_33 rfl hl (by decide) rfl (fun ls hl => ?_)
    exact h_X12_town_34 l S hr hlk hK N 14 σ_4 τ_2 r_2 1 0 _ _ _ h _ _ (by decide) (by decide) _ _ _ hw (lv_sub hl [3, 2, 1, 0] rfl)
  · rw [if_neg c_5] at h
    refine lv_iconst (v := 1) hx hb dX12_town_28 (by decide) ?_
    refine lv_goto (tgt := 33) hx hb dX12_town_29 (by decide) ?_
    refine lv_istore_n (lv' := [(3, .int 1), (2, .int 1), (1, .int r_2), (0, .ref (E.2.2 + 199))]) hx hb dX12_town_33 rfl hl (by decide) rfl (fun ls hl => ?_)
    exact h_X12_town_34 l S hr hlk hK N 14 σ_4 τ_2 r_2 1 1 _ _ _ h _ _ (by decide) (by decide) _ _ _ hw (lv_sub hl [3, 2, 1, 0] rfl)
set_option maxHeartbeats 4000000 in
set_option maxRecDepth 100000 in
theorem c_X12_town (l : Launch) {E : gE} (N : Nat) (σ : gI) (τ : gJ) {r : Int32} {σ1 : gI} {τ1 : gJ} (h : B_X12_town_0 N σ τ = some (r, σ1, τ1)) : gx_Mk l yX12_town cX12_town 6 (some .int) 8 56 392 gx_tb E σ τ [.ref (E.2.2 + 199)] (gq_p r σ1 τ1) := by
  refine gc_bi (by decide +kernel) (Nat.le_of_ble_eq_true rfl) ?_
  intro P9 e9 s m9 below meth C9 S hr hlk hK hw ls hl
  have hl : lv_has ls 6 [(0, .ref (E.2.2 + 199))] := hl
  exact b_X12_town_0 l S hr hlk hK N σ τ h hw hl
end RP
