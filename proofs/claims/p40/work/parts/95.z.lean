theorem gs0_hi {c k : Nat} (h : 199 ≤ c) : gs0 c k = 0 := by
  unfold gs0
  rw [up2_hi (n := 199) (by decide) h, up2_hi (n := 199) (by decide) h, up2_hi (n := 199) (by decide) h, up2_hi (n := 199) (by decide) h, up2_hi (n := 199) (by decide) h, up2_hi (n := 199) (by decide) h]
theorem gl_x : (b_X 0).length = 199 := by decide +kernel
theorem gl_m : (b_X 0 ++ b_M 199).length = 233 := by decide +kernel
theorem gl_tb : b_X 0 ++ b_M 199 ++ ([] ++ [.inr (1, 1, [])]) = gx_tb := by decide +kernel
set_option maxHeartbeats 4000000 in
set_option maxRecDepth 100000 in
theorem whole_start0 {p : Program} {e : Env} {s : State} {m : MethodId} {below : List Frame} {meth : Method} {c : Code} (l : Launch) (hl9 : l.stackTraces = false) {b L : Nat} {xs : Nat → Int32} (hL : L ≤ 3072) (C0 : lw_At p s m meth c b L xs) {Z : Nat → gI → gJ → Prop} (hq : lq Z 4294967296) (h0 : Z 0 gs0 gt0) : W p l e room_1 s m #[Value.ref b] below meth c s.heap [] 0 0 (lw_Z below #[Value.ref b] s) (entryFrame m ([Value.ref b] : List Value).toArray 8) := by
  obtain ⟨hx, hb, hr, hml, hown, hts, hX, hbl, hlk, hgv⟩ := C0
  obtain ⟨E, hE, hK, hN, hT9⟩ := gs_know hts hgv
  have S : CallFix p m c cL_law 8 s #[Value.ref b] gx_G RL := ⟨hx, hb, hml, hown, fun w hw => hts w (List.mem_filter.mp hw).1⟩
  have hA : ∀ t : List gD, gx_Ok t 0 E s := fun t => gx_okc (by omega)
  have hbA : ¬ gx_A 0 E.2.2 s.heap.size b := fun h => by
    rcases h with h | h <;> omega
  have hl := lv_entry ([.ref b]) (n := 8) (Nat.le_of_ble_eq_true rfl)
  rw [lg_entry_eq]
  generalize (lg_sl ([.ref b]) ++ List.replicate (8 - (lg_sl ([.ref b])).length) Slot.unset).toArray = ls at hl ⊢
  have hl : lv_has ls 8 [(0, .ref b)] := hl
  have hY : gx_Y [] [] 0 E s (fun _ _ => 0) (fun _ _ => 0) s.heap [] := ⟨⟨fun k q h => by simp [gx_w, gx_wf] at h, va_S.rf⟩, by simp [hE]⟩
  refine y_new S hK hY (n := 0) rfl 0 rfl cl_12 tyX11 tyX11_ok [some none, some none, some none, some none, some none, some none, some none, some none, some none, some none, some none, none, some none, some none, some none, some none] (fun j hj => by rcases (show j = 0 ∨ j = 1 ∨ j = 2 ∨ j = 3 ∨ j = 4 ∨ j = 5 ∨ j = 6 ∨ j = 7 ∨ j = 8 ∨ j = 9 ∨ j = 10 ∨ j = 11 ∨ j = 12 ∨ j = 13 ∨ j = 14 ∨ j = 15 by omega) with rfl | rfl | rfl | rfl | rfl | rfl | rfl | rfl | rfl | rfl | rfl | rfl | rfl | rfl | rfl | rfl <;> rfl) (fun _ _ _ => rfl) mw_115 mw_116 mw_89 ⟨Nat.le_of_ble_eq_true rfl, Nat.le_of_ble_eq_true rfl⟩ dL_law_0 (fun H hY => ?_)
  refine W.widen (k := 1) (n := 16) (by omega) (by omega) ?_
  have hw : gx_W [.inl (12, [some none, some none, some none, some none, some none, some none, some none, some none, some none, some none, some none, none, some none, some none, some none, some none])] 0 E s (fun _ _ => 0) (fun _ _ => 0) H [] := hY.1
  have hz : H.size = E.2.2 + ([.inl (12, [some none, some none, some none, some none, some none, some none, some none, some none, some none, some none, some none, none, some none, some none, some none, some none])] : List gD).length := hY.2
  refine lv_dup hx hb dL_law_3 rfl ?_
  refine gx_cI (q := 0) (As := []) (rest := [.ref (E.2.2 + 0)]) S hK hN (hA _) hw hz (k_X l (E := E) [] 0 rfl (fun _ _ => 0) (fun _ _ => 0) (fun _ _ _ => rfl) (fun _ _ _ => rfl)) cw_L_22 ⟨Nat.le_of_ble_eq_true rfl, Nat.le_of_ble_eq_true rfl⟩ rfl hl.1 rfl (Nat.le_of_ble_eq_true rfl) ⟨Nat.le_of_ble_eq_true rfl, Nat.le_of_ble_eq_true rfl⟩ dL_law_4 (fun H locs hw hz => ?_)
  refine W.widen (k := 199) (n := 9952) (by omega) (by omega) ?_
  have hY : gx_Y (b_X 0) [] 0 E s (up2 (up2 (up2 (up2 (up2 (up2 (fun _ _ => 0 : gI) (0 + 3) 8 1) (0 + 9) 8 1) (0 + 17) 3 1) (0 + 17) 9 1) (0 + 21) 3 1) (0 + 21) 9 1) (fun _ _ => 0) H locs := ⟨by rw [List.append_nil]; exact hw, hz⟩
  refine lv_astore_n (lv' := [(1, .ref (E.2.2 + 0)), (0, .ref b)]) hx hb dL_law_7 rfl hl (by decide) rfl (fun ls hl => ?_)
  refine y_new S hK hY (n := 199) gl_x 0 rfl cl_13 tyX12 tyX12_ok [none, none, some none, none, none, some none, some none, some none, some none, some none, some none, some none, some none, none, none, none, none, some none, some none, some none, some none, none, some none, some none, none, some none, some none, some none, none, none, some none, none, none, none, none, none, none, some none, some none, some none, some none, some none, none, none, some none, none, none, some none, none, none, none, none, none, some none, some none, some none, some none, some none, some none, some none] (fun j hj => by rcases (show j = 0 ∨ j = 1 ∨ j = 2 ∨ j = 3 ∨ j = 4 ∨ j = 5 ∨ j = 6 ∨ j = 7 ∨ j = 8 ∨ j = 9 ∨ j = 10 ∨ j = 11 ∨ j = 12 ∨ j = 13 ∨ j = 14 ∨ j = 15 ∨ j = 16 ∨ j = 17 ∨ j = 18 ∨ j = 19 ∨ j = 20 ∨ j = 21 ∨ j = 22 ∨ j = 23 ∨ j = 24 ∨ j = 25 ∨ j = 26 ∨ j = 27 ∨ j = 28 ∨ j = 29 ∨ j = 30 ∨ j = 31 ∨ j = 32 ∨ j = 33 ∨ j = 34 ∨ j = 35 ∨ j = 36 ∨ j = 37 ∨ j = 38 ∨ j = 39 ∨ j = 40 ∨ j = 41 ∨ j = 42 ∨ j = 43 ∨ j = 44 ∨ j = 45 ∨ j = 46 ∨ j = 47 ∨ j = 48 ∨ j = 49 ∨ j = 50 ∨ j = 51 ∨ j = 52 ∨ j = 53 ∨ j = 54 ∨ j = 55 ∨ j = 56 ∨ j = 57 ∨ j = 58 ∨ j = 59 by omega) with rfl | rfl | rfl | rfl | rfl | rfl | rfl | rfl | rfl | rfl | rfl | rfl | rfl | rfl | rfl | rfl | rfl | rfl | rfl | rfl | rfl | rfl | rfl | rfl | rfl | rfl | rfl | rfl | rfl | rfl | rfl | rfl | rfl | rfl | rfl | rfl | rfl | rfl | rfl | rfl | rfl | rfl | rfl | rfl | rfl | rfl | rfl | rfl | rfl | rfl | rfl | rfl | rfl | rfl | rfl | rfl | rfl | rfl | rfl | rfl <;> rfl) (fun c9 k9 h9 => gs0_hi (by omega)) mw_1408 mw_1409 mw_101 ⟨Nat.le_of_ble_eq_true rfl, Nat.le_of_ble_eq_true rfl⟩ dL_law_8 (fun H hY => ?_)
  refine W.widen (k := 200) (n := 10012) (by omega) (by omega) ?_
  have hw : gx_W (b_X 0 ++ [.inl (13, [none, none, some none, none, none, some none, some none, some none, some none, some none, some none, some none, some none, none, none, none, none, some none, some none, some none, some none, none, some none, some none, none, some none, some none, some none, none, none, some none, none, none, none, none, none, none, some none, some none, some none, some none, some none, none, none, some none, none, none, some none, none, none, none, none, none, some none, some none, some none, some none, some none, some none, some none])]) 0 E s gs0 (fun _ _ => 0) H locs := hY.1
  have hz : H.size = E.2.2 + (b_X 0 ++ ([.inl (13, [none, none, some none, none, none, some none, some none, some none, some none, some none, some none, some none, some none, none, none, none, none, some none, some none, some none, some none, none, some none, some none, none, some none, some none, some none, none, none, some none, none, none, none, none, none, none, some none, some none, some none, some none, some none, none, none, some none, none, none, some none, none, none, none, none, none, some none, some none, some none, some none, some none, some none, some none])] : List gD)).length := by rw [List.length_append]; exact hY.2
  refine lv_dup hx hb dL_law_11 rfl ?_
  refine gx_cI (q := 199) (As := []) (rest := [.ref (E.2.2 + 199)]) S hK hN (hA _) hw hz (k_M l (E := E) (b_X 0) 199 gl_x gs0 (fun _ _ => 0) (fun c9 k9 h9 => gs0_hi h9) (fun _ _ _ => rfl)) cw_L_25 ⟨Nat.le_of_ble_eq_true rfl, Nat.le_of_ble_eq_true rfl⟩ rfl hl.1 rfl (Nat.le_of_ble_eq_true rfl) ⟨Nat.le_of_ble_eq_true rfl, Nat.le_of_ble_eq_true rfl⟩ dL_law_12 (fun H locs hw hz => ?_)
  refine W.widen (k := 233) (n := 20152) (by omega) (by omega) ?_
  have hY : gx_Y (b_X 0 ++ b_M 199) [] 0 E s gs0 (fun _ _ => 0) H locs := ⟨by rw [List.append_nil]; exact hw, hz⟩
  refine lv_astore_n (lv' := [(2, .ref (E.2.2 + 199)), (1, .ref (E.2.2 + 0)), (0, .ref b)]) hx hb dL_law_15 rfl hl (by decide) rfl (fun ls hl => ?_)
  refine lv_iconst (v := 1) hx hb dL_law_16 (by decide) ?_
  refine y_newJ S hK hY (n := 233) gl_m 0 rfl (N := 1) (by decide) (by decide) (by decide) (fun _ _ _ => rfl) mw_364 ⟨Nat.le_of_ble_eq_true rfl, Nat.le_of_ble_eq_true rfl⟩ dL_law_17 (fun H hY => ?_)
  refine W.widen (k := 234) (n := 20153) (by omega) (by omega) ?_
  have hw : gx_W gx_tb 0 E s gs0 gt0 H locs := by rw [← gl_tb]; exact hY.1
  refine lv_astore_n (lv' := [(3, .ref (E.2.2 + 233)), (2, .ref (E.2.2 + 199)), (1, .ref (E.2.2 + 0)), (0, .ref b)]) hx hb dL_law_19 rfl hl (by decide) rfl (fun ls hl => ?_)
  refine lv_iconst (v := 0) hx hb dL_law_20 (by decide) ?_
  refine lv_istore (lv' := [(4, .int 0), (3, .ref (E.2.2 + 233)), (2, .ref (E.2.2 + 199)), (1, .ref (E.2.2 + 0)), (0, .ref b)]) hx hb dL_law_21 hl (by decide) rfl (fun ls hl => ?_)
  exact lc_loop l hl9 S hK hT9 (hA _) hX hbl hbA 4294967296 (Nat.le_refl _) hL hq (fun σ τ H locs ls cells slots hc hs hw _ => lc_end l S hr hlk hE hw hc hs) 512 0 (by omega) (by omega) gs0 gt0 H locs ls h0 hw hl
