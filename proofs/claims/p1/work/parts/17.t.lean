set_option maxHeartbeats 4000000 in
set_option maxRecDepth 100000 in
theorem c_x_place (l : Launch) (hl9 : l.stackTraces = false) {E : gE} (p v : Int32) : gx_Mt l yX11_place cX11_place 3 (some .int) 6 gx_tb E gs0 gt0 [.ref (E.2.2 + 0), .int p, .int v] (fun sz => va_Qi (fun _ (_ : Unit) => False) (fun _ _ => True) (gx_A gx_tb.length E.2.2 sz)) := by
  refine gx_bt (by decide +kernel) (Nat.le_of_ble_eq_true rfl) ?_
  intro P9 e9 s m9 below meth C9 S hlk hex hK hT9 hw ls hl
  have S : CallFix P9 m9 C9 cX11_place 3 s _ gx_G RX11 := S
  have hx := S.1
  have hb := S.2.1
  have hl : lv_has ls 3 [(0, .ref (E.2.2 + 0)), (1, .int p), (2, .int v)] := hl
  refine lv_aload_n hx hb dX11_place_0 rfl (lv_at hl 0 rfl) ?_
  refine gx_getr (j := 3) S hK hw t_0 cl_12 1 (by decide) rfl mw_448 rfl dX11_place_1 ?_
  refine lv_iload_n hx hb dX11_place_4 rfl (lv_at hl 1 rfl) ?_
  refine gx_cVi (As := [.int p]) (rest := []) S hK gx_ok hw (c_Town_has l (E := E) gs0 gt0 p (by first | rfl | decide | simp [up2, gs0])) cw_X11_137 t_3 cl_9 ⟨Nat.le_of_ble_eq_true rfl, Nat.le_of_ble_eq_true rfl⟩ rfl hl.1 rfl (Nat.le_of_ble_eq_true rfl) ⟨Nat.le_of_ble_eq_true rfl, Nat.le_of_ble_eq_true rfl⟩ dX11_place_5 (fun r_1 σ_1 τ_1 H locs hp hw => ?_)
  obtain ⟨er_1, es_1, et_1⟩ := hp
  obtain rfl := er_1.symm
  obtain rfl := es_1.symm
  obtain rfl := et_1.symm
  refine lv_if_ne (tgt := 21) hx hb dX11_place_8 (by decide) (fun h => absurd rfl h) (fun _ => ?_)
  exact gx_thr (i := 4) S hl9 hK hT9 hw ss_4 rfl hl.1 dX11_place_11 dX11_place_14 dX11_place_15 dX11_place_17 dX11_place_20 hex hlk (by decide) (by decide) (by decide) (by decide)
set_option maxHeartbeats 4000000 in
set_option maxRecDepth 100000 in
theorem c_x_of (l : Launch) (hl9 : l.stackTraces = false) {E : gE} (p v : Int32) : gx_Mt l yX11_of cX11_of 3 (some .int) 6 gx_tb E gs0 gt0 [.ref (E.2.2 + 0), .int p, .int v] (fun sz => va_Qi (fun _ (_ : Unit) => False) (fun _ _ => True) (gx_A gx_tb.length E.2.2 sz)) := by
  refine gx_bt (by decide +kernel) (Nat.le_of_ble_eq_true rfl) ?_
  intro P9 e9 s m9 below meth C9 S hlk hex hK hT9 hw ls hl
  have S : CallFix P9 m9 C9 cX11_of 3 s _ gx_G RX11 := S
  have hx := S.1
  have hb := S.2.1
  have hl : lv_has ls 3 [(0, .ref (E.2.2 + 0)), (1, .int p), (2, .int v)] := hl
  refine lv_aload_n hx hb dX11_of_0 rfl (lv_at hl 0 rfl) ?_
  refine gx_getr (j := 30) S hK hw t_0 cl_12 7 (by decide) rfl mw_454 rfl dX11_of_1 ?_
  refine lv_iload_n hx hb dX11_of_4 rfl (lv_at hl 1 rfl) ?_
  refine gx_cVi (As := [.int p]) (rest := []) S hK gx_ok hw (c_Scene_has l (E := E) gs0 gt0 30 p (by first | rfl | decide | simp [up2, gs0]) t_30) cw_X11_172 t_30 cl_7 ⟨Nat.le_of_ble_eq_true rfl, Nat.le_of_ble_eq_true rfl⟩ rfl hl.1 rfl (Nat.le_of_ble_eq_true rfl) ⟨Nat.le_of_ble_eq_true rfl, Nat.le_of_ble_eq_true rfl⟩ dX11_of_5 (fun r_1 σ_1 τ_1 H locs hp hw => ?_)
  obtain ⟨er_1, es_1, et_1⟩ := hp
  obtain rfl := er_1.symm
  obtain rfl := es_1.symm
  obtain rfl := et_1.symm
  refine lv_if_ne (tgt := 21) hx hb dX11_of_8 (by decide) (fun h => absurd rfl h) (fun _ => ?_)
  exact gx_thr (i := 6) S hl9 hK hT9 hw ss_6 rfl hl.1 dX11_of_11 dX11_of_14 dX11_of_15 dX11_of_17 dX11_of_20 hex hlk (by decide) (by decide) (by decide) (by decide)
set_option maxHeartbeats 4000000 in
set_option maxRecDepth 100000 in
theorem c_x_row (l : Launch) (hl9 : l.stackTraces = false) {E : gE} (i : Int32) : gx_Mt l yX11_row cX11_row 2 (some .long) 6 gx_tb E gs0 gt0 [.ref (E.2.2 + 0), .int i] (fun sz => va_Ql (fun _ (_ : Unit) => False) (fun _ _ => True) (gx_A gx_tb.length E.2.2 sz)) := by
  refine gx_bt (by decide +kernel) (Nat.le_of_ble_eq_true rfl) ?_
  intro P9 e9 s m9 below meth C9 S hlk hex hK hT9 hw ls hl
  have S : CallFix P9 m9 C9 cX11_row 2 s _ gx_G RX11 := S
  have hx := S.1
  have hb := S.2.1
  have hl : lv_has ls 2 [(0, .ref (E.2.2 + 0)), (1, .int i)] := hl
  refine lv_iload_n hx hb dX11_row_0 rfl (lv_at hl 1 rfl) ?_
  refine lv_if_lt (tgt := 15) hx hb dX11_row_1 (by decide) (fun _ => ?_) (fun h => ?_)
  · exact gx_thrW (i := 8) S hl9 hK hT9 hw ss_8 rfl hl.1 dX11_row_15 dX11_row_18 dX11_row_19 dX11_row_22 dX11_row_25 hex hlk (by decide) (by decide) (by decide) (by decide)
  refine lv_iload_n hx hb dX11_row_4 rfl (lv_at hl 1 rfl) ?_
  refine lv_aload_n hx hb dX11_row_5 rfl (lv_at hl 0 rfl) ?_
  refine gx_getr (j := 156) S hK hw t_0 cl_12 13 (by decide) rfl mw_460 rfl dX11_row_6 ?_
  refine gx_get S hK hw t_156 cl_5 1 (by decide) rfl mw_358 rfl dX11_row_9 ?_
  refine gx_top (v := 0) (by first | rfl | decide | simp [up2, gs0]) ?_
  refine lv_icmp_lt (tgt := 26) hx hb dX11_row_12 (by decide) (fun h2 => absurd h2 h) (fun _ => ?_)
  exact gx_thrW (i := 8) S hl9 hK hT9 hw ss_8 rfl hl.1 dX11_row_15 dX11_row_18 dX11_row_19 dX11_row_22 dX11_row_25 hex hlk (by decide) (by decide) (by decide) (by decide)
set_option maxHeartbeats 4000000 in
set_option maxRecDepth 100000 in
theorem c_L_place (l : Launch) (hl9 : l.stackTraces = false) {E : gE} (p v : Int32) : gx_Mw l yL_place cL_place 5 [(0, 10, 13, 13)] 7 gx_tb E gs0 gt0 [.ref (E.2.2 + 0), .int p, .int v, .ref (E.2.2 + 233)] (fun r σ1 τ1 => r = 1 ∧ σ1 = gs0 ∧ τ1 = gt0) := by
  refine gx_bw (by decide +kernel) (Nat.le_of_ble_eq_true rfl) ?_
  intro P9 e9 s m9 below meth C9 S hr hlk htab hK hT9 hw ls hl
  have S : CallFix P9 m9 C9 cL_place 5 s _ gx_G RL := S
  have hx := S.1
  have hb := S.2.1
  have hl : lv_has ls 5 [(0, .ref (E.2.2 + 0)), (1, .int p), (2, .int v), (3, .ref (E.2.2 + 233))] := hl
  refine lv_aload_n hx hb dL_place_0 rfl (lv_at hl 3 rfl) ?_
  refine lv_iconst (v := 0) hx hb dL_place_1 (by decide) ?_
  refine lv_aload_n hx hb dL_place_2 rfl (lv_at hl 0 rfl) ?_
  refine lv_iload_n hx hb dL_place_3 rfl (lv_at hl 1 rfl) ?_
  refine lv_iload_n hx hb dL_place_4 rfl (lv_at hl 2 rfl) ?_
  refine gx_cXi (As := [.int p, .int v]) (rest := [.int 0, .ref (E.2.2 + 233)]) S hK hT9 gx_ok hw (c_x_place l hl9 (E := E) p v) cw_L_7 t_0 cl_12 ⟨Nat.le_of_ble_eq_true rfl, Nat.le_of_ble_eq_true rfl⟩ rfl hl.1 rfl (Nat.le_of_ble_eq_true rfl) ⟨Nat.le_of_ble_eq_true rfl, Nat.le_of_ble_eq_true rfl⟩ dL_place_5 _ _ htab (by decide) (by decide) mw_1302 (fun q9 H locs hw => ?_)
  refine lv_astore (lv' := [(4, .ref q9), (0, .ref (E.2.2 + 0)), (1, .int p), (2, .int v), (3, .ref (E.2.2 + 233))]) hx hb dL_place_13 hl (by decide) rfl (fun ls hl => ?_)
  refine lv_iconst (v := 1) hx hb dL_place_15 (by decide) ?_
  exact gx_ri9 (post := fun r σ1 τ1 => r = 1 ∧ σ1 = gs0 ∧ τ1 = gt0) S hr hlk hw dL_place_16 ⟨rfl, rfl, rfl⟩
set_option maxHeartbeats 4000000 in
set_option maxRecDepth 100000 in
theorem c_L_of (l : Launch) (hl9 : l.stackTraces = false) {E : gE} (p v : Int32) : gx_Mw l yL_of cL_of 5 [(0, 10, 13, 13)] 7 gx_tb E gs0 gt0 [.ref (E.2.2 + 0), .int p, .int v, .ref (E.2.2 + 233)] (fun r σ1 τ1 => r = 1 ∧ σ1 = gs0 ∧ τ1 = gt0) := by
  refine gx_bw (by decide +kernel) (Nat.le_of_ble_eq_true rfl) ?_
  intro P9 e9 s m9 below meth C9 S hr hlk htab hK hT9 hw ls hl
  have S : CallFix P9 m9 C9 cL_of 5 s _ gx_G RL := S
  have hx := S.1
  have hb := S.2.1
  have hl : lv_has ls 5 [(0, .ref (E.2.2 + 0)), (1, .int p), (2, .int v), (3, .ref (E.2.2 + 233))] := hl
  refine lv_aload_n hx hb dL_of_0 rfl (lv_at hl 3 rfl) ?_
  refine lv_iconst (v := 0) hx hb dL_of_1 (by decide) ?_
  refine lv_aload_n hx hb dL_of_2 rfl (lv_at hl 0 rfl) ?_
  refine lv_iload_n hx hb dL_of_3 rfl (lv_at hl 1 rfl) ?_
  refine lv_iload_n hx hb dL_of_4 rfl (lv_at hl 2 rfl) ?_
  refine gx_cXi (As := [.int p, .int v]) (rest := [.int 0, .ref (E.2.2 + 233)]) S hK hT9 gx_ok hw (c_x_of l hl9 (E := E) p v) cw_L_15 t_0 cl_12 ⟨Nat.le_of_ble_eq_true rfl, Nat.le_of_ble_eq_true rfl⟩ rfl hl.1 rfl (Nat.le_of_ble_eq_true rfl) ⟨Nat.le_of_ble_eq_true rfl, Nat.le_of_ble_eq_true rfl⟩ dL_of_5 _ _ htab (by decide) (by decide) mw_1302 (fun q9 H locs hw => ?_)
  refine lv_astore (lv' := [(4, .ref q9), (0, .ref (E.2.2 + 0)), (1, .int p), (2, .int v), (3, .ref (E.2.2 + 233))]) hx hb dL_of_13 hl (by decide) rfl (fun ls hl => ?_)
  refine lv_iconst (v := 1) hx hb dL_of_15 (by decide) ?_
  exact gx_ri9 (post := fun r σ1 τ1 => r = 1 ∧ σ1 = gs0 ∧ τ1 = gt0) S hr hlk hw dL_of_16 ⟨rfl, rfl, rfl⟩
set_option maxHeartbeats 4000000 in
set_option maxRecDepth 100000 in
theorem c_L_row (l : Launch) (hl9 : l.stackTraces = false) {E : gE} (i : Int32) : gx_Mw l yL_row cL_row 4 [(0, 8, 11, 13)] 7 gx_tb E gs0 gt0 [.ref (E.2.2 + 0), .int i, .ref (E.2.2 + 233)] (fun r σ1 τ1 => r = 1 ∧ σ1 = gs0 ∧ τ1 = gt0) := by
  refine gx_bw (by decide +kernel) (Nat.le_of_ble_eq_true rfl) ?_
  intro P9 e9 s m9 below meth C9 S hr hlk htab hK hT9 hw ls hl
  have S : CallFix P9 m9 C9 cL_row 4 s _ gx_G RL := S
  have hx := S.1
  have hb := S.2.1
  have hl : lv_has ls 4 [(0, .ref (E.2.2 + 0)), (1, .int i), (2, .ref (E.2.2 + 233))] := hl
  refine lv_aload_n hx hb dL_row_0 rfl (lv_at hl 2 rfl) ?_
  refine lv_iconst (v := 0) hx hb dL_row_1 (by decide) ?_
  refine lv_aload_n hx hb dL_row_2 rfl (lv_at hl 0 rfl) ?_
  refine lv_iload_n hx hb dL_row_3 rfl (lv_at hl 1 rfl) ?_
  refine gx_cXl (As := [.int i]) (rest := [.int 0, .ref (E.2.2 + 233)]) S hK hT9 gx_ok hw (c_x_row l hl9 (E := E) i) cw_L_18 t_0 cl_12 ⟨Nat.le_of_ble_eq_true rfl, Nat.le_of_ble_eq_true rfl⟩ rfl hl.1 rfl (Nat.le_of_ble_eq_true rfl) ⟨Nat.le_of_ble_eq_true rfl, Nat.le_of_ble_eq_true rfl⟩ dL_row_4 _ _ htab (by decide) (by decide) mw_1302 (fun q9 H locs hw => ?_)
  refine lv_astore_n (lv' := [(3, .ref q9), (0, .ref (E.2.2 + 0)), (1, .int i), (2, .ref (E.2.2 + 233))]) hx hb dL_row_11 rfl hl (by decide) rfl (fun ls hl => ?_)
  refine lv_iconst (v := 1) hx hb dL_row_12 (by decide) ?_
  exact gx_ri9 (post := fun r σ1 τ1 => r = 1 ∧ σ1 = gs0 ∧ τ1 = gt0) S hr hlk hw dL_row_13 ⟨rfl, rfl, rfl⟩
