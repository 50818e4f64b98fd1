section LG0
variable {P9 : Program} {e9 : Env} {s : State} {m9 : MethodId} {below : List Frame} {meth : Method} {C9 : Code} {E : gE} {b L n cells slots : Nat} {xs : Nat → Int32} {H : Heap} {locs : List Loc} {Q : State → Prop} {ls : Array Slot} {σ : gI} {τ : gJ} {Z : gI → gJ → Prop}
set_option maxHeartbeats 4000000 in
set_option maxRecDepth 100000 in
theorem lc_0 (l : Launch) (hl9 : l.stackTraces = false) (S : CallFix P9 m9 C9 cL_law 8 s #[Value.ref b] gx_G RL) (hK : gx_K E s) (hT9 : gx_T s) (hA : gx_Ok gx_tb 0 E s) (hX : va_X b L xs s s.heap) (hbl : b < s.heap.size) (hbA : ¬ gx_A 0 E.2.2 s.heap.size b) (N : Nat) (hN : 4294967296 ≤ N) (hL : L ≤ 3072) (hn : n + 6 ≤ L) (hc : cells + 60 ≤ 601024) (hs : slots + 1000 ≤ 7293034) (hw : gx_W gx_tb 0 E s σ τ H locs) (hl : lv_has ls 8 [(4, .int (nI n)), (3, .ref (E.2.2 + 233)), (2, .ref (E.2.2 + 199)), (1, .ref (E.2.2 + 0)), (0, .ref b)]) (kk : ∀ (σ : gI) (τ : gJ) (H : Heap) (locs : List Loc) (ls : Array Slot), Z σ τ → gx_W gx_tb 0 E s σ τ H locs → lv_has ls 8 [(4, .int (nI n)), (3, .ref (E.2.2 + 233)), (2, .ref (E.2.2 + 199)), (1, .ref (E.2.2 + 0)), (0, .ref b)] → W P9 l e9 room_1 s m9 #[Value.ref b] below meth C9 H locs (cells + 60) (slots + 1000) Q (F0 m9 1662 ls [])) (hq : okp (fun r1 σ1 τ1 => okp (fun r2 σ2 τ2 => Z σ2 τ2) (B_X12_sign_0 N σ1 τ1 (xs (n + 1)))) (B_X11_sign_0 N σ τ (xs (n + 1)))) : W P9 l e9 room_1 s m9 #[Value.ref b] below meth C9 H locs cells slots Q (F0 m9 220 ls []) := by
  have hx := S.1
  have hb := S.2.1
  obtain ⟨r_1, σ_1, τ_1, q_1, h_1⟩ := hq
  obtain ⟨r_2, σ_2, τ_2, q_2, hZ⟩ := h_1
  refine lv_aload_n hx hb dL_law_220 rfl (lv_at hl 3 rfl) ?_
  refine lv_aload_n hx hb dL_law_221 rfl (lv_at hl 4 rfl) ?_
  refine lv_iload hx hb dL_law_222 (lv_at hl 0 rfl) ?_
  refine lv_iconst (v := 1) hx hb dL_law_224 (by decide) ?_
  refine lv_iadd hx hb dL_law_225 ?_
  refine gx_top (v := nI (n + 1)) (by rw [show (1 : Int32) = nI 1 from rfl, nI_add]) ?_
  refine va_sld (i := nI (n + 1)) hx hb hX hbl hbA hw.2 (vp_in_nI (by omega) (by omega)) dL_law_226 ?_
  refine gx_top (v := xs (n + 1)) (by rw [nI_clamp (by omega)]) ?_
  refine gx_cVi (As := [.int (xs (n + 1))]) (rest := []) S hK hA hw (c_X11_sign l (E := E) N σ τ (xs (n + 1)) q_1) cw_L_26 t_0 cl_12 ⟨Nat.le_of_ble_eq_true rfl, Nat.le_of_ble_eq_true rfl⟩ rfl hl.1 rfl (Nat.le_of_ble_eq_true rfl) ⟨by show cells + 0 ≤ 601024; omega, by show slots + 0 ≤ 7293034; omega⟩ dL_law_227 (fun r9 σ9 τ9 H locs hp hw => ?_)
  obtain ⟨rfl, rfl, rfl⟩ := hp
  refine lv_pop hx hb dL_law_230 rfl ?_
  refine lv_aload_n hx hb dL_law_231 rfl (lv_at hl 2 rfl) ?_
  refine lv_aload_n hx hb dL_law_232 rfl (lv_at hl 4 rfl) ?_
  refine lv_iload hx hb dL_law_233 (lv_at hl 0 rfl) ?_
  refine lv_iconst (v := 1) hx hb dL_law_235 (by decide) ?_
  refine lv_iadd hx hb dL_law_236 ?_
  refine gx_top (v := nI (n + 1)) (by rw [show (1 : Int32) = nI 1 from rfl, nI_add]) ?_
  refine va_sld (i := nI (n + 1)) hx hb hX hbl hbA hw.2 (vp_in_nI (by omega) (by omega)) dL_law_237 ?_
  refine gx_top (v := xs (n + 1)) (by rw [nI_clamp (by omega)]) ?_
  refine gx_cVi (As := [.int (xs (n + 1))]) (rest := []) S hK hA hw (c_X12_sign l (E := E) N σ_1 τ_1 (xs (n + 1)) q_2) cw_L_30 t_199 cl_13 ⟨Nat.le_of_ble_eq_true rfl, Nat.le_of_ble_eq_true rfl⟩ rfl hl.1 rfl (Nat.le_of_ble_eq_true rfl) ⟨by show cells + 0 ≤ 601024; omega, by show slots + 0 ≤ 7293034; omega⟩ dL_law_238 (fun r9 σ9 τ9 H locs hp hw => ?_)
  obtain ⟨rfl, rfl, rfl⟩ := hp
  refine lv_pop hx hb dL_law_241 rfl ?_
  refine lv_goto (tgt := 1662) hx hb dL_law_242 (by decide) ?_
  refine W.widen (k := cells + 60) (n := slots + 1000) (by omega) (by omega) ?_
  exact kk _ _ _ _ _ hZ hw (lv_sub hl [0, 1, 2, 3, 4] rfl)
set_option maxHeartbeats 4000000 in
set_option maxRecDepth 100000 in
theorem lc_1 (l : Launch) (hl9 : l.stackTraces = false) (S : CallFix P9 m9 C9 cL_law 8 s #[Value.ref b] gx_G RL) (hK : gx_K E s) (hT9 : gx_T s) (hA : gx_Ok gx_tb 0 E s) (hX : va_X b L xs s s.heap) (hbl : b < s.heap.size) (hbA : ¬ gx_A 0 E.2.2 s.heap.size b) (N : Nat) (hN : 4294967296 ≤ N) (hL : L ≤ 3072) (hn : n + 6 ≤ L) (hc : cells + 60 ≤ 601024) (hs : slots + 1000 ≤ 7293034) (hw : gx_W gx_tb 0 E s σ τ H locs) (hl : lv_has ls 8 [(4, .int (nI n)), (3, .ref (E.2.2 + 233)), (2, .ref (E.2.2 + 199)), (1, .ref (E.2.2 + 0)), (0, .ref b)]) (kk : ∀ (σ : gI) (τ : gJ) (H : Heap) (locs : List Loc) (ls : Array Slot), Z σ τ → gx_W gx_tb 0 E s σ τ H locs → lv_has ls 8 [(4, .int (nI n)), (3, .ref (E.2.2 + 233)), (2, .ref (E.2.2 + 199)), (1, .ref (E.2.2 + 0)), (0, .ref b)] → W P9 l e9 room_1 s m9 #[Value.ref b] below meth C9 H locs (cells + 60) (slots + 1000) Q (F0 m9 1662 ls [])) (hq : okp (fun r1 σ1 τ1 => okp (fun r2 σ2 τ2 => Z σ2 τ2) (B_X12_end_0 N σ1 τ1 (xs (n + 1)))) (B_X11_end_0 N σ τ (xs (n + 1)))) : W P9 l e9 room_1 s m9 #[Value.ref b] below meth C9 H locs cells slots Q (F0 m9 245 ls []) := by
  have hx := S.1
  have hb := S.2.1
  obtain ⟨r_1, σ_1, τ_1, q_1, h_1⟩ := hq
  obtain ⟨r_2, σ_2, τ_2, q_2, hZ⟩ := h_1
  refine lv_aload_n hx hb dL_law_245 rfl (lv_at hl 3 rfl) ?_
  refine lv_aload_n hx hb dL_law_246 rfl (lv_at hl 4 rfl) ?_
  refine lv_iload hx hb dL_law_247 (lv_at hl 0 rfl) ?_
  refine lv_iconst (v := 1) hx hb dL_law_249 (by decide) ?_
  refine lv_iadd hx hb dL_law_250 ?_
  refine gx_top (v := nI (n + 1)) (by rw [show (1 : Int32) = nI 1 from rfl, nI_add]) ?_
  refine va_sld (i := nI (n + 1)) hx hb hX hbl hbA hw.2 (vp_in_nI (by omega) (by omega)) dL_law_251 ?_
  refine gx_top (v := xs (n + 1)) (by rw [nI_clamp (by omega)]) ?_
  refine gx_cVi (As := [.int (xs (n + 1))]) (rest := []) S hK hA hw (c_X11_end l (E := E) N σ τ (xs (n + 1)) q_1) cw_L_31 t_0 cl_12 ⟨Nat.le_of_ble_eq_true rfl, Nat.le_of_ble_eq_true rfl⟩ rfl hl.1 rfl (Nat.le_of_ble_eq_true rfl) ⟨by show cells + 0 ≤ 601024; omega, by show slots + 0 ≤ 7293034; omega⟩ dL_law_252 (fun r9 σ9 τ9 H locs hp hw => ?_)
  obtain ⟨rfl, rfl, rfl⟩ := hp
  refine lv_pop hx hb dL_law_255 rfl ?_
  refine lv_aload_n hx hb dL_law_256 rfl (lv_at hl 2 rfl) ?_
  refine lv_aload_n hx hb dL_law_257 rfl (lv_at hl 4 rfl) ?_
  refine lv_iload hx hb dL_law_258 (lv_at hl 0 rfl) ?_
  refine lv_iconst (v := 1) hx hb dL_law_260 (by decide) ?_
  refine lv_iadd hx hb dL_law_261 ?_
  refine gx_top (v := nI (n + 1)) (by rw [show (1 : Int32) = nI 1 from rfl, nI_add]) ?_
  refine va_sld (i := nI (n + 1)) hx hb hX hbl hbA hw.2 (vp_in_nI (by omega) (by omega)) dL_law_262 ?_
  refine gx_top (v := xs (n + 1)) (by rw [nI_clamp (by omega)]) ?_
  refine gx_cVi (As := [.int (xs (n + 1))]) (rest := []) S hK hA hw (c_X12_end l (E := E) N σ_1 τ_1 (xs (n + 1)) q_2) cw_L_35 t_199 cl_13 ⟨Nat.le_of_ble_eq_true rfl, Nat.le_of_ble_eq_true rfl⟩ rfl hl.1 rfl (Nat.le_of_ble_eq_true rfl) ⟨by show cells + 0 ≤ 601024; omega, by show slots + 0 ≤ 7293034; omega⟩ dL_law_263 (fun r9 σ9 τ9 H locs hp hw => ?_)
  obtain ⟨rfl, rfl, rfl⟩ := hp
  refine lv_pop hx hb dL_law_266 rfl ?_
  refine lv_goto (tgt := 1662) hx hb dL_law_267 (by decide) ?_
  refine W.widen (k := cells + 60) (n := slots + 1000) (by omega) (by omega) ?_
  exact kk _ _ _ _ _ hZ hw (lv_sub hl [0, 1, 2, 3, 4] rfl)
set_option maxHeartbeats 4000000 in
set_option maxRecDepth 100000 in
theorem lc_3 (l : Launch) (hl9 : l.stackTraces = false) (S : CallFix P9 m9 C9 cL_law 8 s #[Value.ref b] gx_G RL) (hK : gx_K E s) (hT9 : gx_T s) (hA : gx_Ok gx_tb 0 E s) (hX : va_X b L xs s s.heap) (hbl : b < s.heap.size) (hbA : ¬ gx_A 0 E.2.2 s.heap.size b) (N : Nat) (hN : 4294967296 ≤ N) (hL : L ≤ 3072) (hn : n + 6 ≤ L) (hc : cells + 60 ≤ 601024) (hs : slots + 1000 ≤ 7293034) (hw : gx_W gx_tb 0 E s σ τ H locs) (hl : lv_has ls 8 [(4, .int (nI n)), (3, .ref (E.2.2 + 233)), (2, .ref (E.2.2 + 199)), (1, .ref (E.2.2 + 0)), (0, .ref b)]) (kk : ∀ (σ : gI) (τ : gJ) (H : Heap) (locs : List Loc) (ls : Array Slot), Z σ τ → gx_W gx_tb 0 E s σ τ H locs → lv_has ls 8 [(4, .int (nI n)), (3, .ref (E.2.2 + 233)), (2, .ref (E.2.2 + 199)), (1, .ref (E.2.2 + 0)), (0, .ref b)] → W P9 l e9 room_1 s m9 #[Value.ref b] below meth C9 H locs (cells + 60) (slots + 1000) Q (F0 m9 1662 ls [])) (hq : okp (fun r1 σ1 τ1 => okp (fun r2 σ2 τ2 => Z σ2 τ2) (B_X12_water_0 N σ1 τ1)) (B_X11_water_0 N σ τ)) : W P9 l e9 room_1 s m9 #[Value.ref b] below meth C9 H locs cells slots Q (F0 m9 283 ls []) := by
  have hx := S.1
  have hb := S.2.1
  obtain ⟨r_1, σ_1, τ_1, q_1, h_1⟩ := hq
  obtain ⟨r_2, σ_2, τ_2, q_2, hZ⟩ := h_1
  refine lv_aload_n hx hb dL_law_283 rfl (lv_at hl 3 rfl) ?_
  refine gx_cVi (As := []) (rest := []) S hK hA hw (c_X11_water l (E := E) N σ τ q_1) cw_L_41 t_0 cl_12 ⟨Nat.le_of_ble_eq_true rfl, Nat.le_of_ble_eq_true rfl⟩ rfl hl.1 rfl (Nat.le_of_ble_eq_true rfl) ⟨by show cells + 0 ≤ 601024; omega, by show slots + 0 ≤ 7293034; omega⟩ dL_law_284 (fun r9 σ9 τ9 H locs hp hw => ?_)
  obtain ⟨rfl, rfl, rfl⟩ := hp
  refine lv_pop hx hb dL_law_287 rfl ?_
  refine lv_aload_n hx hb dL_law_288 rfl (lv_at hl 2 rfl) ?_
  refine gx_cVi (As := []) (rest := []) S hK hA hw (c_X12_water l (E := E) N σ_1 τ_1 q_2) cw_L_44 t_199 cl_13 ⟨Nat.le_of_ble_eq_true rfl, Nat.le_of_ble_eq_true rfl⟩ rfl hl.1 rfl (Nat.le_of_ble_eq_true rfl) ⟨by show cells + 0 ≤ 601024; omega, by show slots + 0 ≤ 7293034; omega⟩ dL_law_289 (fun r9 σ9 τ9 H locs hp hw => ?_)
  obtain ⟨rfl, rfl, rfl⟩ := hp
  refine lv_pop hx hb dL_law_292 rfl ?_
  refine lv_goto (tgt := 1662) hx hb dL_law_293 (by decide) ?_
  refine W.widen (k := cells + 60) (n := slots + 1000) (by omega) (by omega) ?_
  exact kk _ _ _ _ _ hZ hw (lv_sub hl [0, 1, 2, 3, 4] rfl)
set_option maxHeartbeats 4000000 in
set_option maxRecDepth 100000 in
theorem lc_4 (l : Launch) (hl9 : l.stackTraces = false) (S : CallFix P9 m9 C9 cL_law 8 s #[Value.ref b] gx_G RL) (hK : gx_K E s) (hT9 : gx_T s) (hA : gx_Ok gx_tb 0 E s) (hX : va_X b L xs s s.heap) (hbl : b < s.heap.size) (hbA : ¬ gx_A 0 E.2.2 s.heap.size b) (N : Nat) (hN : 4294967296 ≤ N) (hL : L ≤ 3072) (hn : n + 6 ≤ L) (hc : cells + 60 ≤ 601024) (hs : slots + 1000 ≤ 7293034) (hw : gx_W gx_tb 0 E s σ τ H locs) (hl : lv_has ls 8 [(4, .int (nI n)), (3, .ref (E.2.2 + 233)), (2, .ref (E.2.2 + 199)), (1, .ref (E.2.2 + 0)), (0, .ref b)]) (kk : ∀ (σ : gI) (τ : gJ) (H : Heap) (locs : List Loc) (ls : Array Slot), Z σ τ → gx_W gx_tb 0 E s σ τ H locs → lv_has ls 8 [(4, .int (nI n)), (3, .ref (E.2.2 + 233)), (2, .ref (E.2.2 + 199)), (1, .ref (E.2.2 + 0)), (0, .ref b)] → W P9 l e9 room_1 s m9 #[Value.ref b] below meth C9 H locs (cells + 60) (slots + 1000) Q (F0 m9 1662 ls [])) (hq : okp (fun r1 σ1 τ1 => okp (fun r2 σ2 τ2 => Z σ2 τ2) (B_X12_rule_0 N σ1 τ1)) (B_X11_rule_0 N σ τ)) : W P9 l e9 room_1 s m9 #[Value.ref b] below meth C9 H locs cells slots Q (F0 m9 296 ls []) := by
  have hx := S.1
  have hb := S.2.1
  obtain ⟨r_1, σ_1, τ_1, q_1, h_1⟩ := hq
  obtain ⟨r_2, σ_2, τ_2, q_2, hZ⟩ := h_1
  refine lv_aload_n hx hb dL_law_296 rfl (lv_at hl 3 rfl) ?_
  refine gx_cVi (As := []) (rest := []) S hK hA hw (c_X11_rule l (E := E) N σ τ q_1) cw_L_45 t_0 cl_12 ⟨Nat.le_of_ble_eq_true rfl, Nat.le_of_ble_eq_true rfl⟩ rfl hl.1 rfl (Nat.le_of_ble_eq_true rfl) ⟨by show cells + 0 ≤ 601024; omega, by show slots + 0 ≤ 7293034; omega⟩ dL_law_297 (fun r9 σ9 τ9 H locs hp hw => ?_)
  obtain ⟨rfl, rfl, rfl⟩ := hp
  refine lv_pop hx hb dL_law_300 rfl ?_
  refine lv_aload_n hx hb dL_law_301 rfl (lv_at hl 2 rfl) ?_
  refine gx_cVi (As := []) (rest := []) S hK hA hw (c_X12_rule l (E := E) N σ_1 τ_1 q_2) cw_L_48 t_199 cl_13 ⟨Nat.le_of_ble_eq_true rfl, Nat.le_of_ble_eq_true rfl⟩ rfl hl.1 rfl (Nat.le_of_ble_eq_true rfl) ⟨by show cells + 0 ≤ 601024; omega, by show slots + 0 ≤ 7293034; omega⟩ dL_law_302 (fun r9 σ9 τ9 H locs hp hw => ?_)
  obtain ⟨rfl, rfl, rfl⟩ := hp
  refine lv_pop hx hb dL_law_305 rfl ?_
  refine lv_goto (tgt := 1662) hx hb dL_law_306 (by decide) ?_
  refine W.widen (k := cells + 60) (n := slots + 1000) (by omega) (by omega) ?_
  exact kk _ _ _ _ _ hZ hw (lv_sub hl [0, 1, 2, 3, 4] rfl)
set_option maxHeartbeats 4000000 in
set_option maxRecDepth 100000 in
theorem lc_5 (l : Launch) (hl9 : l.stackTraces = false) (S : CallFix P9 m9 C9 cL_law 8 s #[Value.ref b] gx_G RL) (hK : gx_K E s) (hT9 : gx_T s) (hA : gx_Ok gx_tb 0 E s) (hX : va_X b L xs s s.heap) (hbl : b < s.heap.size) (hbA : ¬ gx_A 0 E.2.2 s.heap.size b) (N : Nat) (hN : 4294967296 ≤ N) (hL : L ≤ 3072) (hn : n + 6 ≤ L) (hc : cells + 60 ≤ 601024) (hs : slots + 1000 ≤ 7293034) (hw : gx_W gx_tb 0 E s σ τ H locs) (hl : lv_has ls 8 [(4, .int (nI n)), (3, .ref (E.2.2 + 233)), (2, .ref (E.2.2 + 199)), (1, .ref (E.2.2 + 0)), (0, .ref b)]) (kk : ∀ (σ : gI) (τ : gJ) (H : Heap) (locs : List Loc) (ls : Array Slot), Z σ τ → gx_W gx_tb 0 E s σ τ H locs → lv_has ls 8 [(4, .int (nI n)), (3, .ref (E.2.2 + 233)), (2, .ref (E.2.2 + 199)), (1, .ref (E.2.2 + 0)), (0, .ref b)] → W P9 l e9 room_1 s m9 #[Value.ref b] below meth C9 H locs (cells + 60) (slots + 1000) Q (F0 m9 1662 ls [])) (hq : IC σ ∧ ∀ τ9 : gJ, (∀ c k : Nat, c ≠ 233 → τ9 c k = τ c k) → okp (fun _ σ2 τ2 => Z σ2 τ2) (B_X12_place_0 N σ τ9 (xs (n + 1)) (xs (n + 2)))) : W P9 l e9 room_1 s m9 #[Value.ref b] below meth C9 H locs cells slots Q (F0 m9 309 ls []) := by
  have hx := S.1
  have hb := S.2.1
  obtain ⟨hI, hq⟩ := hq
  refine lv_aload_n hx hb dL_law_309 rfl (lv_at hl 3 rfl) ?_
  refine lv_aload_n hx hb dL_law_310 rfl (lv_at hl 4 rfl) ?_
  refine lv_iload hx hb dL_law_311 (lv_at hl 0 rfl) ?_
  refine lv_iconst (v := 1) hx hb dL_law_313 (by decide) ?_
  refine lv_iadd hx hb dL_law_314 ?_
  refine gx_top (v := nI (n + 1)) (by rw [show (1 : Int32) = nI 1 from rfl, nI_add]) ?_
  refine va_sld (i := nI (n + 1)) hx hb hX hbl hbA hw.2 (vp_in_nI (by omega) (by omega)) dL_law_315 ?_
  refine gx_top (v := xs (n + 1)) (by rw [nI_clamp (by omega)]) ?_
  refine lv_aload_n hx hb dL_law_316 rfl (lv_at hl 4 rfl) ?_
  refine lv_iload hx hb dL_law_317 (lv_at hl 0 rfl) ?_
  refine lv_iconst (v := 2) hx hb dL_law_319 (by decide) ?_
  refine lv_iadd hx hb dL_law_320 ?_
  refine gx_top (v := nI (n + 2)) (by rw [show (2 : Int32) = nI 2 from rfl, nI_add]) ?_
  refine va_sld (i := nI (n + 2)) hx hb hX hbl hbA hw.2 (vp_in_nI (by omega) (by omega)) dL_law_321 ?_
  refine gx_top (v := xs (n + 2)) (by rw [nI_clamp (by omega)]) ?_
  refine lv_aload_n hx hb dL_law_322 rfl (lv_at hl 1 rfl) ?_
  refine gx_cSw (As := [.ref (E.2.2 + 0), .int (xs (n + 1)), .int (xs (n + 2)), .ref (E.2.2 + 233)]) (rest := []) S hK hT9 hA hw (c_L_place l hl9 (E := E) N hN σ τ (xs (n + 1)) (xs (n + 2)) hI) cw_L_49 ⟨Nat.le_of_ble_eq_true rfl, Nat.le_of_ble_eq_true rfl⟩ rfl hl.1 rfl (Nat.le_of_ble_eq_true rfl) ⟨by show cells + 1 ≤ 601024; omega, by show slots + 6 ≤ 7293034; omega⟩ dL_law_323 (fun r_1 σ_1 τ_1 H locs hp hw => ?_)
  obtain ⟨es, ht⟩ := hp
  obtain ⟨r_2, σ_2, τ_2, q_2, hZ⟩ := hq τ_1 ht
  rw [es] at hw
  refine lv_istore (lv' := [(5, .int r_1), (4, .int (nI n)), (3, .ref (E.2.2 + 233)), (2, .ref (E.2.2 + 199)), (1, .ref (E.2.2 + 0)), (0, .ref b)]) hx hb dL_law_326 hl (by decide) rfl (fun ls hl => ?_)
  refine lv_aload_n hx hb dL_law_328 rfl (lv_at hl 3 rfl) ?_
  refine lv_aload_n hx hb dL_law_329 rfl (lv_at hl 5 rfl) ?_
  refine lv_iload hx hb dL_law_330 (lv_at hl 1 rfl) ?_
  refine lv_iconst (v := 1) hx hb dL_law_332 (by decide) ?_
  refine lv_iadd hx hb dL_law_333 ?_
  refine gx_top (v := nI (n + 1)) (by rw [show (1 : Int32) = nI 1 from rfl, nI_add]) ?_
  refine va_sld (i := nI (n + 1)) hx hb hX hbl hbA hw.2 (vp_in_nI (by omega) (by omega)) dL_law_334 ?_
  refine gx_top (v := xs (n + 1)) (by rw [nI_clamp (by omega)]) ?_
  refine lv_aload_n hx hb dL_law_335 rfl (lv_at hl 5 rfl) ?_
  refine lv_iload hx hb dL_law_336 (lv_at hl 1 rfl) ?_
  refine lv_iconst (v := 2) hx hb dL_law_338 (by decide) ?_
  refine lv_iadd hx hb dL_law_339 ?_
  refine gx_top (v := nI (n + 2)) (by rw [show (2 : Int32) = nI 2 from rfl, nI_add]) ?_
  refine va_sld (i := nI (n + 2)) hx hb hX hbl hbA hw.2 (vp_in_nI (by omega) (by omega)) dL_law_340 ?_
  refine gx_top (v := xs (n + 2)) (by rw [nI_clamp (by omega)]) ?_
  refine gx_cVi (As := [.int (xs (n + 1)), .int (xs (n + 2))]) (rest := []) S hK hA hw (c_X12_place l (E := E) N σ τ_1 (xs (n + 1)) (xs (n + 2)) q_2) cw_L_54 t_199 cl_13 ⟨Nat.le_of_ble_eq_true rfl, Nat.le_of_ble_eq_true rfl⟩ rfl hl.1 rfl (Nat.le_of_ble_eq_true rfl) ⟨by show cells + 1 + 0 ≤ 601024; omega, by show slots + 6 + 0 ≤ 7293034; omega⟩ dL_law_341 (fun r9 σ9 τ9 H locs hp hw => ?_)
  obtain ⟨rfl, rfl, rfl⟩ := hp
  refine lv_istore (lv' := [(6, .int r_2), (5, .int r_1), (4, .int (nI n)), (3, .ref (E.2.2 + 233)), (2, .ref (E.2.2 + 199)), (1, .ref (E.2.2 + 0)), (0, .ref b)]) hx hb dL_law_344 hl (by decide) rfl (fun ls hl => ?_)
  refine lv_goto (tgt := 1662) hx hb dL_law_346 (by decide) ?_
  refine W.widen (k := cells + 60) (n := slots + 1000) (by omega) (by omega) ?_
  exact kk _ _ _ _ _ hZ hw (lv_sub hl [2, 3, 4, 5, 6] rfl)
set_option maxHeartbeats 4000000 in
set_option maxRecDepth 100000 in
theorem lc_6 (l : Launch) (hl9 : l.stackTraces = false) (S : CallFix P9 m9 C9 cL_law 8 s #[Value.ref b] gx_G RL) (hK : gx_K E s) (hT9 : gx_T s) (hA : gx_Ok gx_tb 0 E s) (hX : va_X b L xs s s.heap) (hbl : b < s.heap.size) (hbA : ¬ gx_A 0 E.2.2 s.heap.size b) (N : Nat) (hN : 4294967296 ≤ N) (hL : L ≤ 3072) (hn : n + 6 ≤ L) (hc : cells + 60 ≤ 601024) (hs : slots + 1000 ≤ 7293034) (hw : gx_W gx_tb 0 E s σ τ H locs) (hl : lv_has ls 8 [(4, .int (nI n)), (3, .ref (E.2.2 + 233)), (2, .ref (E.2.2 + 199)), (1, .ref (E.2.2 + 0)), (0, .ref b)]) (kk : ∀ (σ : gI) (τ : gJ) (H : Heap) (locs : List Loc) (ls : Array Slot), Z σ τ → gx_W gx_tb 0 E s σ τ H locs → lv_has ls 8 [(4, .int (nI n)), (3, .ref (E.2.2 + 233)), (2, .ref (E.2.2 + 199)), (1, .ref (E.2.2 + 0)), (0, .ref b)] → W P9 l e9 room_1 s m9 #[Value.ref b] below meth C9 H locs (cells + 60) (slots + 1000) Q (F0 m9 1662 ls [])) (hq : IC σ ∧ ∀ τ9 : gJ, (∀ c k : Nat, c ≠ 233 → τ9 c k = τ c k) → okp (fun _ σ2 τ2 => Z σ2 τ2) (B_X12_of_0 N σ τ9 (xs (n + 1)) (xs (n + 2)))) : W P9 l e9 room_1 s m9 #[Value.ref b] below meth C9 H locs cells slots Q (F0 m9 349 ls []) := by
  have hx := S.1
  have hb := S.2.1
  obtain ⟨hI, hq⟩ := hq
  refine lv_aload_n hx hb dL_law_349 rfl (lv_at hl 3 rfl) ?_
  refine lv_aload_n hx hb dL_law_350 rfl (lv_at hl 4 rfl) ?_
  refine lv_iload hx hb dL_law_351 (lv_at hl 0 rfl) ?_
  refine lv_iconst (v := 1) hx hb dL_law_353 (by decide) ?_
  refine lv_iadd hx hb dL_law_354 ?_
  refine gx_top (v := nI (n + 1)) (by rw [show (1 : Int32) = nI 1 from rfl, nI_add]) ?_
  refine va_sld (i := nI (n + 1)) hx hb hX hbl hbA hw.2 (vp_in_nI (by omega) (by omega)) dL_law_355 ?_
  refine gx_top (v := xs (n + 1)) (by rw [nI_clamp (by omega)]) ?_
  refine lv_aload_n hx hb dL_law_356 rfl (lv_at hl 4 rfl) ?_
  refine lv_iload hx hb dL_law_357 (lv_at hl 0 rfl) ?_
  refine lv_iconst (v := 2) hx hb dL_law_359 (by decide) ?_
  refine lv_iadd hx hb dL_law_360 ?_
  refine gx_top (v := nI (n + 2)) (by rw [show (2 : Int32) = nI 2 from rfl, nI_add]) ?_
  refine va_sld (i := nI (n + 2)) hx hb hX hbl hbA hw.2 (vp_in_nI (by omega) (by omega)) dL_law_361 ?_
  refine gx_top (v := xs (n + 2)) (by rw [nI_clamp (by omega)]) ?_
  refine lv_aload_n hx hb dL_law_362 rfl (lv_at hl 1 rfl) ?_
  refine gx_cSw (As := [.ref (E.2.2 + 0), .int (xs (n + 1)), .int (xs (n + 2)), .ref (E.2.2 + 233)]) (rest := []) S hK hT9 hA hw (c_L_of l hl9 (E := E) N hN σ τ (xs (n + 1)) (xs (n + 2)) hI) cw_L_55 ⟨Nat.le_of_ble_eq_true rfl, Nat.le_of_ble_eq_true rfl⟩ rfl hl.1 rfl (Nat.le_of_ble_eq_true rfl) ⟨by show cells + 1 ≤ 601024; omega, by show slots + 6 ≤ 7293034; omega⟩ dL_law_363 (fun r_1 σ_1 τ_1 H locs hp hw => ?_)
  obtain ⟨es, ht⟩ := hp
  obtain ⟨r_2, σ_2, τ_2, q_2, hZ⟩ := hq τ_1 ht
  rw [es] at hw
  refine lv_istore (lv' := [(5, .int r_1), (4, .int (nI n)), (3, .ref (E.2.2 + 233)), (2, .ref (E.2.2 + 199)), (1, .ref (E.2.2 + 0)), (0, .ref b)]) hx hb dL_law_366 hl (by decide) rfl (fun ls hl => ?_)
  refine lv_aload_n hx hb dL_law_368 rfl (lv_at hl 3 rfl) ?_
  refine lv_aload_n hx hb dL_law_369 rfl (lv_at hl 5 rfl) ?_
  refine lv_iload hx hb dL_law_370 (lv_at hl 1 rfl) ?_
  refine lv_iconst (v := 1) hx hb dL_law_372 (by decide) ?_
  refine lv_iadd hx hb dL_law_373 ?_
  refine gx_top (v := nI (n + 1)) (by rw [show (1 : Int32) = nI 1 from rfl, nI_add]) ?_
  refine va_sld (i := nI (n + 1)) hx hb hX hbl hbA hw.2 (vp_in_nI (by omega) (by omega)) dL_law_374 ?_
  refine gx_top (v := xs (n + 1)) (by rw [nI_clamp (by omega)]) ?_
  refine lv_aload_n hx hb dL_law_375 rfl (lv_at hl 5 rfl) ?_
  refine lv_iload hx hb dL_law_376 (lv_at hl 1 rfl) ?_
  refine lv_iconst (v := 2) hx hb dL_law_378 (by decide) ?_
  refine lv_iadd hx hb dL_law_379 ?_
  refine gx_top (v := nI (n + 2)) (by rw [show (2 : Int32) = nI 2 from rfl, nI_add]) ?_
  refine va_sld (i := nI (n + 2)) hx hb hX hbl hbA hw.2 (vp_in_nI (by omega) (by omega)) dL_law_380 ?_
  refine gx_top (v := xs (n + 2)) (by rw [nI_clamp (by omega)]) ?_
  refine gx_cVi (As := [.int (xs (n + 1)), .int (xs (n + 2))]) (rest := []) S hK hA hw (c_X12_of l (E := E) N σ τ_1 (xs (n + 1)) (xs (n + 2)) q_2) cw_L_57 t_199 cl_13 ⟨Nat.le_of_ble_eq_true rfl, Nat.le_of_ble_eq_true rfl⟩ rfl hl.1 rfl (Nat.le_of_ble_eq_true rfl) ⟨by show cells + 1 + 0 ≤ 601024; omega, by show slots + 6 + 0 ≤ 7293034; omega⟩ dL_law_381 (fun r9 σ9 τ9 H locs hp hw => ?_)
  obtain ⟨rfl, rfl, rfl⟩ := hp
  refine lv_istore (lv' := [(6, .int r_2), (5, .int r_1), (4, .int (nI n)), (3, .ref (E.2.2 + 233)), (2, .ref (E.2.2 + 199)), (1, .ref (E.2.2 + 0)), (0, .ref b)]) hx hb dL_law_384 hl (by decide) rfl (fun ls hl => ?_)
  refine lv_goto (tgt := 1662) hx hb dL_law_386 (by decide) ?_
  refine W.widen (k := cells + 60) (n := slots + 1000) (by omega) (by omega) ?_
  exact kk _ _ _ _ _ hZ hw (lv_sub hl [2, 3, 4, 5, 6] rfl)
set_option maxHeartbeats 4000000 in
set_option maxRecDepth 100000 in
theorem lc_7 (l : Launch) (hl9 : l.stackTraces = false) (S : CallFix P9 m9 C9 cL_law 8 s #[Value.ref b] gx_G RL) (hK : gx_K E s) (hT9 : gx_T s) (hA : gx_Ok gx_tb 0 E s) (hX : va_X b L xs s s.heap) (hbl : b < s.heap.size) (hbA : ¬ gx_A 0 E.2.2 s.heap.size b) (N : Nat) (hN : 4294967296 ≤ N) (hL : L ≤ 3072) (hn : n + 6 ≤ L) (hc : cells + 60 ≤ 601024) (hs : slots + 1000 ≤ 7293034) (hw : gx_W gx_tb 0 E s σ τ H locs) (hl : lv_has ls 8 [(4, .int (nI n)), (3, .ref (E.2.2 + 233)), (2, .ref (E.2.2 + 199)), (1, .ref (E.2.2 + 0)), (0, .ref b)]) (kk : ∀ (σ : gI) (τ : gJ) (H : Heap) (locs : List Loc) (ls : Array Slot), Z σ τ → gx_W gx_tb 0 E s σ τ H locs → lv_has ls 8 [(4, .int (nI n)), (3, .ref (E.2.2 + 233)), (2, .ref (E.2.2 + 199)), (1, .ref (E.2.2 + 0)), (0, .ref b)] → W P9 l e9 room_1 s m9 #[Value.ref b] below meth C9 H locs (cells + 60) (slots + 1000) Q (F0 m9 1662 ls [])) (hq : okp (fun r1 σ1 τ1 => okp (fun r2 σ2 τ2 => Z σ2 τ2) (B_X12_flow_0 N σ1 τ1 (xs (n + 1)))) (B_X11_flow_0 N σ τ (xs (n + 1)))) : W P9 l e9 room_1 s m9 #[Value.ref b] below meth C9 H locs cells slots Q (F0 m9 389 ls []) := by
  have hx := S.1
  have hb := S.2.1
  obtain ⟨r_1, σ_1, τ_1, q_1, h_1⟩ := hq
  obtain ⟨r_2, σ_2, τ_2, q_2, hZ⟩ := h_1
  refine lv_aload_n hx hb dL_law_389 rfl (lv_at hl 3 rfl) ?_
  refine lv_aload_n hx hb dL_law_390 rfl (lv_at hl 4 rfl) ?_
  refine lv_iload hx hb dL_law_391 (lv_at hl 0 rfl) ?_
  refine lv_iconst (v := 1) hx hb dL_law_393 (by decide) ?_
  refine lv_iadd hx hb dL_law_394 ?_
  refine gx_top (v := nI (n + 1)) (by rw [show (1 : Int32) = nI 1 from rfl, nI_add]) ?_
  refine va_sld (i := nI (n + 1)) hx hb hX hbl hbA hw.2 (vp_in_nI (by omega) (by omega)) dL_law_395 ?_
  refine gx_top (v := xs (n + 1)) (by rw [nI_clamp (by omega)]) ?_
  refine gx_cVi (As := [.int (xs (n + 1))]) (rest := []) S hK hA hw (c_X11_flow l (E := E) N σ τ (xs (n + 1)) q_1) cw_L_58 t_0 cl_12 ⟨Nat.le_of_ble_eq_true rfl, Nat.le_of_ble_eq_true rfl⟩ rfl hl.1 rfl (Nat.le_of_ble_eq_true rfl) ⟨by show cells + 0 ≤ 601024; omega, by show slots + 0 ≤ 7293034; omega⟩ dL_law_396 (fun r9 σ9 τ9 H locs hp hw => ?_)
  obtain ⟨rfl, rfl, rfl⟩ := hp
  refine lv_pop hx hb dL_law_399 rfl ?_
  refine lv_aload_n hx hb dL_law_400 rfl (lv_at hl 2 rfl) ?_
  refine lv_aload_n hx hb dL_law_401 rfl (lv_at hl 4 rfl) ?_
  refine lv_iload hx hb dL_law_402 (lv_at hl 0 rfl) ?_
  refine lv_iconst (v := 1) hx hb dL_law_404 (by decide) ?_
  refine lv_iadd hx hb dL_law_405 ?_
  refine gx_top (v := nI (n + 1)) (by rw [show (1 : Int32) = nI 1 from rfl, nI_add]) ?_
  refine va_sld (i := nI (n + 1)) hx hb hX hbl hbA hw.2 (vp_in_nI (by omega) (by omega)) dL_law_406 ?_
  refine gx_top (v := xs (n + 1)) (by rw [nI_clamp (by omega)]) ?_
  refine gx_cVi (As := [.int (xs (n + 1))]) (rest := []) S hK hA hw (c_X12_flow l (E := E) N σ_1 τ_1 (xs (n + 1)) q_2) cw_L_61 t_199 cl_13 ⟨Nat.le_of_ble_eq_true rfl, Nat.le_of_ble_eq_true rfl⟩ rfl hl.1 rfl (Nat.le_of_ble_eq_true rfl) ⟨by show cells + 0 ≤ 601024; omega, by show slots + 0 ≤ 7293034; omega⟩ dL_law_407 (fun r9 σ9 τ9 H locs hp hw => ?_)
  obtain ⟨rfl, rfl, rfl⟩ := hp
  refine lv_pop hx hb dL_law_410 rfl ?_
  refine lv_goto (tgt := 1662) hx hb dL_law_411 (by decide) ?_
  refine W.widen (k := cells + 60) (n := slots + 1000) (by omega) (by omega) ?_
  exact kk _ _ _ _ _ hZ hw (lv_sub hl [0, 1, 2, 3, 4] rfl)
set_option maxHeartbeats 4000000 in
set_option maxRecDepth 100000 in
theorem lc_8 (l : Launch) (hl9 : l.stackTraces = false) (S : CallFix P9 m9 C9 cL_law 8 s #[Value.ref b] gx_G RL) (hK : gx_K E s) (hT9 : gx_T s) (hA : gx_Ok gx_tb 0 E s) (hX : va_X b L xs s s.heap) (hbl : b < s.heap.size) (hbA : ¬ gx_A 0 E.2.2 s.heap.size b) (N : Nat) (hN : 4294967296 ≤ N) (hL : L ≤ 3072) (hn : n + 6 ≤ L) (hc : cells + 60 ≤ 601024) (hs : slots + 1000 ≤ 7293034) (hw : gx_W gx_tb 0 E s σ τ H locs) (hl : lv_has ls 8 [(4, .int (nI n)), (3, .ref (E.2.2 + 233)), (2, .ref (E.2.2 + 199)), (1, .ref (E.2.2 + 0)), (0, .ref b)]) (kk : ∀ (σ : gI) (τ : gJ) (H : Heap) (locs : List Loc) (ls : Array Slot), Z σ τ → gx_W gx_tb 0 E s σ τ H locs → lv_has ls 8 [(4, .int (nI n)), (3, .ref (E.2.2 + 233)), (2, .ref (E.2.2 + 199)), (1, .ref (E.2.2 + 0)), (0, .ref b)] → W P9 l e9 room_1 s m9 #[Value.ref b] below meth C9 H locs (cells + 60) (slots + 1000) Q (F0 m9 1662 ls [])) (hq : okp (fun r1 σ1 τ1 => okp (fun r2 σ2 τ2 => Z σ2 τ2) (B_X12_plank_0 N σ1 τ1 (xs (n + 1)) (xs (n + 2)))) (B_X11_plank_0 N σ τ (xs (n + 1)) (xs (n + 2)))) : W P9 l e9 room_1 s m9 #[Value.ref b] below meth C9 H locs cells slots Q (F0 m9 414 ls []) := by
  have hx := S.1
  have hb := S.2.1
  obtain ⟨r_1, σ_1, τ_1, q_1, h_1⟩ := hq
  obtain ⟨r_2, σ_2, τ_2, q_2, hZ⟩ := h_1
  refine lv_aload_n hx hb dL_law_414 rfl (lv_at hl 3 rfl) ?_
  refine lv_aload_n hx hb dL_law_415 rfl (lv_at hl 4 rfl) ?_
  refine lv_iload hx hb dL_law_416 (lv_at hl 0 rfl) ?_
  refine lv_iconst (v := 1) hx hb dL_law_418 (by decide) ?_
  refine lv_iadd hx hb dL_law_419 ?_
  refine gx_top (v := nI (n + 1)) (by rw [show (1 : Int32) = nI 1 from rfl, nI_add]) ?_
  refine va_sld (i := nI (n + 1)) hx hb hX hbl hbA hw.2 (vp_in_nI (by omega) (by omega)) dL_law_420 ?_
  refine gx_top (v := xs (n + 1)) (by rw [nI_clamp (by omega)]) ?_
  refine lv_aload_n hx hb dL_law_421 rfl (lv_at hl 4 rfl) ?_
  refine lv_iload hx hb dL_law_422 (lv_at hl 0 rfl) ?_
  refine lv_iconst (v := 2) hx hb dL_law_424 (by decide) ?_
  refine lv_iadd hx hb dL_law_425 ?_
  refine gx_top (v := nI (n + 2)) (by rw [show (2 : Int32) = nI 2 from rfl, nI_add]) ?_
  refine va_sld (i := nI (n + 2)) hx hb hX hbl hbA hw.2 (vp_in_nI (by omega) (by omega)) dL_law_426 ?_
  refine gx_top (v := xs (n + 2)) (by rw [nI_clamp (by omega)]) ?_
  refine gx_cVi (As := [.int (xs (n + 1)), .int (xs (n + 2))]) (rest := []) S hK hA hw (c_X11_plank l (E := E) N σ τ (xs (n + 1)) (xs (n + 2)) q_1) cw_L_62 t_0 cl_12 ⟨Nat.le_of_ble_eq_true rfl, Nat.le_of_ble_eq_true rfl⟩ rfl hl.1 rfl (Nat.le_of_ble_eq_true rfl) ⟨by show cells + 0 ≤ 601024; omega, by show slots + 0 ≤ 7293034; omega⟩ dL_law_427 (fun r9 σ9 τ9 H locs hp hw => ?_)
  obtain ⟨rfl, rfl, rfl⟩ := hp
  refine lv_pop hx hb dL_law_430 rfl ?_
  refine lv_aload_n hx hb dL_law_431 rfl (lv_at hl 2 rfl) ?_
  refine lv_aload_n hx hb dL_law_432 rfl (lv_at hl 4 rfl) ?_
  refine lv_iload hx hb dL_law_433 (lv_at hl 0 rfl) ?_
  refine lv_iconst (v := 1) hx hb dL_law_435 (by decide) ?_
  refine lv_iadd hx hb dL_law_436 ?_
  refine gx_top (v := nI (n + 1)) (by rw [show (1 : Int32) = nI 1 from rfl, nI_add]) ?_
  refine va_sld (i := nI (n + 1)) hx hb hX hbl hbA hw.2 (vp_in_nI (by omega) (by omega)) dL_law_437 ?_
  refine gx_top (v := xs (n + 1)) (by rw [nI_clamp (by omega)]) ?_
  refine lv_aload_n hx hb dL_law_438 rfl (lv_at hl 4 rfl) ?_
  refine lv_iload hx hb dL_law_439 (lv_at hl 0 rfl) ?_
  refine lv_iconst (v := 2) hx hb dL_law_441 (by decide) ?_
  refine lv_iadd hx hb dL_law_442 ?_
  refine gx_top (v := nI (n + 2)) (by rw [show (2 : Int32) = nI 2 from rfl, nI_add]) ?_
  refine va_sld (i := nI (n + 2)) hx hb hX hbl hbA hw.2 (vp_in_nI (by omega) (by omega)) dL_law_443 ?_
  refine gx_top (v := xs (n + 2)) (by rw [nI_clamp (by omega)]) ?_
  refine gx_cVi (As := [.int (xs (n + 1)), .int (xs (n + 2))]) (rest := []) S hK hA hw (c_X12_plank l (E := E) N σ_1 τ_1 (xs (n + 1)) (xs (n + 2)) q_2) cw_L_66 t_199 cl_13 ⟨Nat.le_of_ble_eq_true rfl, Nat.le_of_ble_eq_true rfl⟩ rfl hl.1 rfl (Nat.le_of_ble_eq_true rfl) ⟨by show cells + 0 ≤ 601024; omega, by show slots + 0 ≤ 7293034; omega⟩ dL_law_444 (fun r9 σ9 τ9 H locs hp hw => ?_)
  obtain ⟨rfl, rfl, rfl⟩ := hp
  refine lv_pop hx hb dL_law_447 rfl ?_
  refine lv_goto (tgt := 1662) hx hb dL_law_448 (by decide) ?_
  refine W.widen (k := cells + 60) (n := slots + 1000) (by omega) (by omega) ?_
  exact kk _ _ _ _ _ hZ hw (lv_sub hl [0, 1, 2, 3, 4] rfl)
set_option maxHeartbeats 4000000 in
set_option maxRecDepth 100000 in
theorem lc_9 (l : Launch) (hl9 : l.stackTraces = false) (S : CallFix P9 m9 C9 cL_law 8 s #[Value.ref b] gx_G RL) (hK : gx_K E s) (hT9 : gx_T s) (hA : gx_Ok gx_tb 0 E s) (hX : va_X b L xs s s.heap) (hbl : b < s.heap.size) (hbA : ¬ gx_A 0 E.2.2 s.heap.size b) (N : Nat) (hN : 4294967296 ≤ N) (hL : L ≤ 3072) (hn : n + 6 ≤ L) (hc : cells + 60 ≤ 601024) (hs : slots + 1000 ≤ 7293034) (hw : gx_W gx_tb 0 E s σ τ H locs) (hl : lv_has ls 8 [(4, .int (nI n)), (3, .ref (E.2.2 + 233)), (2, .ref (E.2.2 + 199)), (1, .ref (E.2.2 + 0)), (0, .ref b)]) (kk : ∀ (σ : gI) (τ : gJ) (H : Heap) (locs : List Loc) (ls : Array Slot), Z σ τ → gx_W gx_tb 0 E s σ τ H locs → lv_has ls 8 [(4, .int (nI n)), (3, .ref (E.2.2 + 233)), (2, .ref (E.2.2 + 199)), (1, .ref (E.2.2 + 0)), (0, .ref b)] → W P9 l e9 room_1 s m9 #[Value.ref b] below meth C9 H locs (cells + 60) (slots + 1000) Q (F0 m9 1662 ls [])) (hq : okp (fun r1 σ1 τ1 => okp (fun r2 σ2 τ2 => Z σ2 τ2) (B_X12_sheet_0 N σ1 τ1 (xs (n + 1)) (xs (n + 2)) (xs (n + 3)) (xs (n + 4)))) (B_X11_sheet_0 N σ τ (xs (n + 1)) (xs (n + 2)) (xs (n + 3)) (xs (n + 4)))) : W P9 l e9 room_1 s m9 #[Value.ref b] below meth C9 H locs cells slots Q (F0 m9 451 ls []) := by
  have hx := S.1
  have hb := S.2.1
  obtain ⟨r_1, σ_1, τ_1, q_1, h_1⟩ := hq
  obtain ⟨r_2, σ_2, τ_2, q_2, hZ⟩ := h_1
  refine lv_aload_n hx hb dL_law_451 rfl (lv_at hl 3 rfl) ?_
  refine lv_aload_n hx hb dL_law_452 rfl (lv_at hl 4 rfl) ?_
  refine lv_iload hx hb dL_law_453 (lv_at hl 0 rfl) ?_
  refine lv_iconst (v := 1) hx hb dL_law_455 (by decide) ?_
  refine lv_iadd hx hb dL_law_456 ?_
  refine gx_top (v := nI (n + 1)) (by rw [show (1 : Int32) = nI 1 from rfl, nI_add]) ?_
  refine va_sld (i := nI (n + 1)) hx hb hX hbl hbA hw.2 (vp_in_nI (by omega) (by omega)) dL_law_457 ?_
  refine gx_top (v := xs (n + 1)) (by rw [nI_clamp (by omega)]) ?_
  refine lv_aload_n hx hb dL_law_458 rfl (lv_at hl 4 rfl) ?_
  refine lv_iload hx hb dL_law_459 (lv_at hl 0 rfl) ?_
  refine lv_iconst (v := 2) hx hb dL_law_461 (by decide) ?_
  refine lv_iadd hx hb dL_law_462 ?_
  refine gx_top (v := nI (n + 2)) (by rw [show (2 : Int32) = nI 2 from rfl, nI_add]) ?_
  refine va_sld (i := nI (n + 2)) hx hb hX hbl hbA hw.2 (vp_in_nI (by omega) (by omega)) dL_law_463 ?_
  refine gx_top (v := xs (n + 2)) (by rw [nI_clamp (by omega)]) ?_
  refine lv_aload_n hx hb dL_law_464 rfl (lv_at hl 4 rfl) ?_
  refine lv_iload hx hb dL_law_465 (lv_at hl 0 rfl) ?_
  refine lv_iconst (v := 3) hx hb dL_law_467 (by decide) ?_
  refine lv_iadd hx hb dL_law_468 ?_
  refine gx_top (v := nI (n + 3)) (by rw [show (3 : Int32) = nI 3 from rfl, nI_add]) ?_
  refine va_sld (i := nI (n + 3)) hx hb hX hbl hbA hw.2 (vp_in_nI (by omega) (by omega)) dL_law_469 ?_
  refine gx_top (v := xs (n + 3)) (by rw [nI_clamp (by omega)]) ?_
  refine lv_aload_n hx hb dL_law_470 rfl (lv_at hl 4 rfl) ?_
  refine lv_iload hx hb dL_law_471 (lv_at hl 0 rfl) ?_
  refine lv_iconst (v := 4) hx hb dL_law_473 (by decide) ?_
  refine lv_iadd hx hb dL_law_474 ?_
  refine gx_top (v := nI (n + 4)) (by rw [show (4 : Int32) = nI 4 from rfl, nI_add]) ?_
  refine va_sld (i := nI (n + 4)) hx hb hX hbl hbA hw.2 (vp_in_nI (by omega) (by omega)) dL_law_475 ?_
  refine gx_top (v := xs (n + 4)) (by rw [nI_clamp (by omega)]) ?_
  refine gx_cVi (As := [.int (xs (n + 1)), .int (xs (n + 2)), .int (xs (n + 3)), .int (xs (n + 4))]) (rest := []) S hK hA hw (c_X11_sheet l (E := E) N σ τ (xs (n + 1)) (xs (n + 2)) (xs (n + 3)) (xs (n + 4)) q_1) cw_L_67 t_0 cl_12 ⟨Nat.le_of_ble_eq_true rfl, Nat.le_of_ble_eq_true rfl⟩ rfl hl.1 rfl (Nat.le_of_ble_eq_true rfl) ⟨by show cells + 0 ≤ 601024; omega, by show slots + 0 ≤ 7293034; omega⟩ dL_law_476 (fun r9 σ9 τ9 H locs hp hw => ?_)
  obtain ⟨rfl, rfl, rfl⟩ := hp
  refine lv_pop hx hb dL_law_479 rfl ?_
  refine lv_aload_n hx hb dL_law_480 rfl (lv_at hl 2 rfl) ?_
  refine lv_aload_n hx hb dL_law_481 rfl (lv_at hl 4 rfl) ?_
  refine lv_iload hx hb dL_law_482 (lv_at hl 0 rfl) ?_
  refine lv_iconst (v := 1) hx hb dL_law_484 (by decide) ?_
  refine lv_iadd hx hb dL_law_485 ?_
  refine gx_top (v := nI (n + 1)) (by rw [show (1 : Int32) = nI 1 from rfl, nI_add]) ?_
  refine va_sld (i := nI (n + 1)) hx hb hX hbl hbA hw.2 (vp_in_nI (by omega) (by omega)) dL_law_486 ?_
  refine gx_top (v := xs (n + 1)) (by rw [nI_clamp (by omega)]) ?_
  refine lv_aload_n hx hb dL_law_487 rfl (lv_at hl 4 rfl) ?_
  refine lv_iload hx hb dL_law_488 (lv_at hl 0 rfl) ?_
  refine lv_iconst (v := 2) hx hb dL_law_490 (by decide) ?_
  refine lv_iadd hx hb dL_law_491 ?_
  refine gx_top (v := nI (n + 2)) (by rw [show (2 : Int32) = nI 2 from rfl, nI_add]) ?_
  refine va_sld (i := nI (n + 2)) hx hb hX hbl hbA hw.2 (vp_in_nI (by omega) (by omega)) dL_law_492 ?_
  refine gx_top (v := xs (n + 2)) (by rw [nI_clamp (by omega)]) ?_
  refine lv_aload_n hx hb dL_law_493 rfl (lv_at hl 4 rfl) ?_
  refine lv_iload hx hb dL_law_494 (lv_at hl 0 rfl) ?_
  refine lv_iconst (v := 3) hx hb dL_law_496 (by decide) ?_
  refine lv_iadd hx hb dL_law_497 ?_
  refine gx_top (v := nI (n + 3)) (by rw [show (3 : Int32) = nI 3 from rfl, nI_add]) ?_
  refine va_sld (i := nI (n + 3)) hx hb hX hbl hbA hw.2 (vp_in_nI (by omega) (by omega)) dL_law_498 ?_
  refine gx_top (v := xs (n + 3)) (by rw [nI_clamp (by omega)]) ?_
  refine lv_aload_n hx hb dL_law_499 rfl (lv_at hl 4 rfl) ?_
  refine lv_iload hx hb dL_law_500 (lv_at hl 0 rfl) ?_
  refine lv_iconst (v := 4) hx hb dL_law_502 (by decide) ?_
  refine lv_iadd hx hb dL_law_503 ?_
  refine gx_top (v := nI (n + 4)) (by rw [show (4 : Int32) = nI 4 from rfl, nI_add]) ?_
  refine va_sld (i := nI (n + 4)) hx hb hX hbl hbA hw.2 (vp_in_nI (by omega) (by omega)) dL_law_504 ?_
  refine gx_top (v := xs (n + 4)) (by rw [nI_clamp (by omega)]) ?_
  refine gx_cVi (As := [.int (xs (n + 1)), .int (xs (n + 2)), .int (xs (n + 3)), .int (xs (n + 4))]) (rest := []) S hK hA hw (c_X12_sheet l (E := E) N σ_1 τ_1 (xs (n + 1)) (xs (n + 2)) (xs (n + 3)) (xs (n + 4)) q_2) cw_L_71 t_199 cl_13 ⟨Nat.le_of_ble_eq_true rfl, Nat.le_of_ble_eq_true rfl⟩ rfl hl.1 rfl (Nat.le_of_ble_eq_true rfl) ⟨by show cells + 0 ≤ 601024; omega, by show slots + 0 ≤ 7293034; omega⟩ dL_law_505 (fun r9 σ9 τ9 H locs hp hw => ?_)
  obtain ⟨rfl, rfl, rfl⟩ := hp
  refine lv_pop hx hb dL_law_508 rfl ?_
  refine lv_goto (tgt := 1662) hx hb dL_law_509 (by decide) ?_
  refine W.widen (k := cells + 60) (n := slots + 1000) (by omega) (by omega) ?_
  exact kk _ _ _ _ _ hZ hw (lv_sub hl [0, 1, 2, 3, 4] rfl)
end LG0
