def lq (Z : Nat → gI → gJ → Prop) (N : Nat) : Prop := ∀ (σ : gI) (τ : gJ) (xs : Nat → Int32) (n : Nat), n + 6 ≤ 3072 → Z n σ τ → Z (n + 6) σ τ ∧ (okp (fun r1 σ1 τ1 => okp (fun r2 σ2 τ2 => Z (n + 6) σ2 τ2) (B_X12_sign_0 N σ1 τ1 (xs (n + 1)))) (B_X11_sign_0 N σ τ (xs (n + 1)))) ∧ (okp (fun r1 σ1 τ1 => okp (fun r2 σ2 τ2 => Z (n + 6) σ2 τ2) (B_X12_end_0 N σ1 τ1 (xs (n + 1)))) (B_X11_end_0 N σ τ (xs (n + 1)))) ∧ (okp (fun r1 σ1 τ1 => okp (fun r2 σ2 τ2 => Z (n + 6) σ2 τ2) (B_X12_town_0 N σ1 τ1)) (B_X11_town_0 N σ τ)) ∧ (okp (fun r1 σ1 τ1 => okp (fun r2 σ2 τ2 => Z (n + 6) σ2 τ2) (B_X12_water_0 N σ1 τ1)) (B_X11_water_0 N σ τ)) ∧ (okp (fun r1 σ1 τ1 => okp (fun r2 σ2 τ2 => Z (n + 6) σ2 τ2) (B_X12_rule_0 N σ1 τ1)) (B_X11_rule_0 N σ τ)) ∧ (IC σ ∧ ∀ τ9 : gJ, (∀ c k : Nat, c ≠ 233 → τ9 c k = τ c k) → okp (fun _ σ2 τ2 => Z (n + 6) σ2 τ2) (B_X12_place_0 N σ τ9 (xs (n + 1)) (xs (n + 2)))) ∧ (IC σ ∧ ∀ τ9 : gJ, (∀ c k : Nat, c ≠ 233 → τ9 c k = τ c k) → okp (fun _ σ2 τ2 => Z (n + 6) σ2 τ2) (B_X12_of_0 N σ τ9 (xs (n + 1)) (xs (n + 2)))) ∧ (okp (fun r1 σ1 τ1 => okp (fun r2 σ2 τ2 => Z (n + 6) σ2 τ2) (B_X12_flow_0 N σ1 τ1 (xs (n + 1)))) (B_X11_flow_0 N σ τ (xs (n + 1)))) ∧ (okp (fun r1 σ1 τ1 => okp (fun r2 σ2 τ2 => Z (n + 6) σ2 τ2) (B_X12_plank_0 N σ1 τ1 (xs (n + 1)) (xs (n + 2)))) (B_X11_plank_0 N σ τ (xs (n + 1)) (xs (n + 2)))) ∧ (okp (fun r1 σ1 τ1 => okp (fun r2 σ2 τ2 => Z (n + 6) σ2 τ2) (B_X12_sheet_0 N σ1 τ1 (xs (n + 1)) (xs (n + 2)) (xs (n + 3)) (xs (n + 4)))) (B_X11_sheet_0 N σ τ (xs (n + 1)) (xs (n + 2)) (xs (n + 3)) (xs (n + 4)))) ∧ (okp (fun r1 σ1 τ1 => okp (fun r2 σ2 τ2 => Z (n + 6) σ2 τ2) (B_X12_put_0 N σ1 τ1 (xs (n + 1)) (xs (n + 2)) (xs (n + 3)) (xs (n + 4)))) (B_X11_put_0 N σ τ (xs (n + 1)) (xs (n + 2)) (xs (n + 3)) (xs (n + 4)))) ∧ (okp (fun r1 σ1 τ1 => okp (fun r2 σ2 τ2 => Z (n + 6) σ2 τ2) (B_X12_give_0 N σ1 τ1 (xs (n + 1)) (xs (n + 2)))) (B_X11_give_0 N σ τ (xs (n + 1)) (xs (n + 2)))) ∧ (okp (fun r1 σ1 τ1 => okp (fun r2 σ2 τ2 => Z (n + 6) σ2 τ2) (B_X12_run_0 N σ1 τ1 (xs (n + 1)))) (B_X11_run_0 N σ τ (xs (n + 1)))) ∧ (okp (fun r1 σ1 τ1 => okp (fun r2 σ2 τ2 => Z (n + 6) σ2 τ2) (B_X12_day_0 N σ1 τ1)) (B_X11_day_0 N σ τ)) ∧ (okp (fun r1 σ1 τ1 => okp (fun r2 σ2 τ2 => Z (n + 6) σ2 τ2) (B_X12_undo_0 N σ1 τ1)) (B_X11_undo_0 N σ τ)) ∧ (okp (fun r1 σ1 τ1 => okp (fun r2 σ2 τ2 => Z (n + 6) σ2 τ2) (B_X12_where_0 N σ1 τ1 (xs (n + 1)) (xs (n + 2)))) (B_X11_where_0 N σ τ (xs (n + 1)) (xs (n + 2)))) ∧ (okp (fun r1 σ1 τ1 => okp (fun r2 σ2 τ2 => Z (n + 6) σ2 τ2) (B_X12_comes_0 N σ1 τ1 (xs (n + 1)))) (B_X11_comes_0 N σ τ (xs (n + 1)))) ∧ (okp (fun r1 σ1 τ1 => okp (fun r2 σ2 τ2 => Z (n + 6) σ2 τ2) (B_X12_lost_0 N σ1 τ1 (xs (n + 1)))) (B_X11_lost_0 N σ τ (xs (n + 1)))) ∧ (okp (fun r1 σ1 τ1 => okp (fun r2 σ2 τ2 => Z (n + 6) σ2 τ2) (B_X12_homes_0 N σ1 τ1 (xs (n + 1)))) (B_X11_homes_0 N σ τ (xs (n + 1)))) ∧ (okp (fun r1 σ1 τ1 => okp (fun r2 σ2 τ2 => Z (n + 6) σ2 τ2) (B_X12_sail_0 N σ1 τ1 (xs (n + 1)) (xs (n + 2)) (xs (n + 3)) (xs (n + 4)) (xs (n + 5)))) (B_X11_sail_0 N σ τ (xs (n + 1)) (xs (n + 2)) (xs (n + 3)) (xs (n + 4)) (xs (n + 5)))) ∧ (okp (fun r1 σ1 τ1 => okp (fun r2 σ2 τ2 => Z (n + 6) σ2 τ2) (B_X12_soonest_0 N σ1 τ1 (xs (n + 1)) (xs (n + 2)) (xs (n + 3)))) (B_X11_soonest_0 N σ τ (xs (n + 1)) (xs (n + 2)) (xs (n + 3)))) ∧ (okp (fun r1 σ1 τ1 => okp (fun r2 σ2 τ2 => Z (n + 6) σ2 τ2) (B_X12_basin_0 N σ1 τ1 (xs (n + 1)) (xs (n + 2)) (xs (n + 3)))) (B_X11_basin_0 N σ τ (xs (n + 1)) (xs (n + 2)) (xs (n + 3)))) ∧ (okp (fun r1 σ1 τ1 => okp (fun r2 σ2 τ2 => Z (n + 6) σ2 τ2) (B_X12_boat_0 N σ1 τ1 (xs (n + 1)) (xs (n + 2)) (xs (n + 3)))) (B_X11_boat_0 N σ τ (xs (n + 1)) (xs (n + 2)) (xs (n + 3)))) ∧ (okp (fun r1 σ1 τ1 => okp (fun r2 σ2 τ2 => Z (n + 6) σ2 τ2) (B_X12_coins_0 N σ1 τ1 (xs (n + 1)) (xs (n + 2)) (xs (n + 3)))) (B_X11_coins_0 N σ τ (xs (n + 1)) (xs (n + 2)) (xs (n + 3)))) ∧ (okp (fun r1 σ1 τ1 => okp (fun r2 σ2 τ2 => Z (n + 6) σ2 τ2) (B_X12_waits_0 N σ1 τ1 (xs (n + 1)) (xs (n + 2)) (xs (n + 3)) (xs (n + 4)))) (B_X11_waits_0 N σ τ (xs (n + 1)) (xs (n + 2)) (xs (n + 3)) (xs (n + 4)))) ∧ (okp (fun r1 σ1 τ1 => okp (fun r2 σ2 τ2 => Z (n + 6) σ2 τ2) (B_X12_round_0 N σ1 τ1 (xs (n + 1)))) (B_X11_round_0 N σ τ (xs (n + 1)))) ∧ (okp (fun r1 σ1 τ1 => okp (fun r2 σ2 τ2 => Z (n + 6) σ2 τ2) (B_X12_save_0 N σ1 τ1 (xs (n + 1)))) (B_X11_save_0 N σ τ (xs (n + 1)))) ∧ (okp (fun r1 σ1 τ1 => okp (fun r2 σ2 τ2 => Z (n + 6) σ2 τ2) (B_X12_steer_0 N σ1 τ1 (xs (n + 1)) (xs (n + 2)))) (B_X11_steer_0 N σ τ (xs (n + 1)) (xs (n + 2)))) ∧ (okp (fun r1 σ1 τ1 => okp (fun r2 σ2 τ2 => Z (n + 6) σ2 τ2) (B_X12_ways_0 N σ1 τ1 (xs (n + 1)) (xs (n + 2)) (xs (n + 3)) (xs (n + 4)))) (B_X11_ways_0 N σ τ (xs (n + 1)) (xs (n + 2)) (xs (n + 3)) (xs (n + 4)))) ∧ (okp (fun r1 σ1 τ1 => okp (fun r2 σ2 τ2 => Z (n + 6) σ2 τ2) (B_X12_duel_0 N σ1 τ1 (xs (n + 1)) (xs (n + 2)) (xs (n + 3)) (xs (n + 4)) (xs (n + 5)))) (B_X11_duel_0 N σ τ (xs (n + 1)) (xs (n + 2)) (xs (n + 3)) (xs (n + 4)) (xs (n + 5)))) ∧ (okp (fun r1 σ1 τ1 => okp (fun r2 σ2 τ2 => Z (n + 6) σ2 τ2) (B_X12_cork_0 N σ1 τ1 (xs (n + 1)) (xs (n + 2)) (xs (n + 3)))) (B_X11_cork_0 N σ τ (xs (n + 1)) (xs (n + 2)) (xs (n + 3)))) ∧ (okp (fun r1 σ1 τ1 => okp (fun r2 σ2 τ2 => Z (n + 6) σ2 τ2) (B_X12_forget_0 N σ1 τ1)) (B_X11_forget_0 N σ τ)) ∧ (okp (fun r1 σ1 τ1 => okp (fun r2 σ2 τ2 => Z (n + 6) σ2 τ2) (B_X12_maps_0 N σ1 τ1)) (B_X11_maps_0 N σ τ)) ∧ (okp (fun r1 σ1 τ1 => okp (fun r2 σ2 τ2 => Z (n + 6) σ2 τ2) (B_X12_next_0 N σ1 τ1 (xs (n + 1)))) (B_X11_next_0 N σ τ (xs (n + 1)))) ∧ (okp (fun r1 σ1 τ1 => okp (fun r2 σ2 τ2 => Z (n + 6) σ2 τ2) (B_X12_odds_0 N σ1 τ1 (xs (n + 1)) (xs (n + 2)) (xs (n + 3)))) (B_X11_odds_0 N σ τ (xs (n + 1)) (xs (n + 2)) (xs (n + 3)))) ∧ (okp (fun r1 σ1 τ1 => okp (fun r2 σ2 τ2 => Z (n + 6) σ2 τ2) (B_X12_marks_0 N σ1 τ1 (xs (n + 1)) (xs (n + 2)) (xs (n + 3)))) (B_X11_marks_0 N σ τ (xs (n + 1)) (xs (n + 2)) (xs (n + 3)))) ∧ (okp (fun r1 σ1 τ1 => okp (fun r2 σ2 τ2 => Z (n + 6) σ2 τ2) (B_X12_order_0 N σ1 τ1 (xs (n + 1)) (xs (n + 2)))) (B_X11_order_0 N σ τ (xs (n + 1)) (xs (n + 2)))) ∧ (okp (fun r1 σ1 τ1 => okp (fun r2 σ2 τ2 => Z (n + 6) σ2 τ2) (B_X12_keep_0 N σ1 τ1 (xs (n + 1)))) (B_X11_keep_0 N σ τ (xs (n + 1)))) ∧ (okp (fun r1 σ1 τ1 => okp (fun r2 σ2 τ2 => r1 = r2 ∧ Z (n + 6) σ2 τ2) (B_X12_again_0 N σ1 τ1 (xs (n + 1)))) (B_X11_again_0 N σ τ (xs (n + 1)))) ∧ (okp (fun r1 σ1 τ1 => okp (fun r2 σ2 τ2 => Z (n + 6) σ2 τ2) (B_X12_count_0 N σ1 τ1 (xs (n + 1)))) (B_X11_count_0 N σ τ (xs (n + 1)))) ∧ (IC σ ∧ ∀ τ9 : gJ, (∀ c k : Nat, c ≠ 233 → τ9 c k = τ c k) → okp (fun _ σ2 τ2 => Z (n + 6) σ2 τ2) (B_X12_row_0 N σ τ9 (xs (n + 1))))
theorem lp_cmp {L n : Nat} (hL : L ≤ 3072) (hn : n ≤ 3072) : (Int32.ofNat L - 6 < nI n) ↔ L < n + 6 := by
  have e : (Int32.ofNat L - 6).toInt = (L : Int) - 6 := by
    rw [Int32.toInt_sub, show (Int32.ofNat L).toInt = (L : Int) from nI_toInt (by omega), show (6 : Int32).toInt = 6 from rfl]
    exact Int.bmod_eq_of_le (by omega) (by omega)
  rw [Int32.lt_iff_toInt_lt, nI_toInt (by omega), e]
  omega
section LOOP
variable {P9 : Program} {e9 : Env} {s : State} {m9 : MethodId} {below : List Frame} {meth : Method} {C9 : Code} {E : gE} {b L n cells slots : Nat} {xs : Nat → Int32} {H : Heap} {locs : List Loc} {Q : State → Prop} {ls : Array Slot} {σ : gI} {τ : gJ} {Z : Nat → gI → gJ → Prop}
set_option maxHeartbeats 4000000 in
set_option maxRecDepth 100000 in
theorem lc_sw (l : Launch) (hl9 : l.stackTraces = false) (S : CallFix P9 m9 C9 cL_law 8 s #[Value.ref b] gx_G RL) (hK : gx_K E s) (hT9 : gx_T s) (hA : gx_Ok gx_tb 0 E s) (hX : va_X b L xs s s.heap) (hbl : b < s.heap.size) (hbA : ¬ gx_A 0 E.2.2 s.heap.size b) (N : Nat) (hN : 4294967296 ≤ N) (hL : L ≤ 3072) (hn : n + 6 ≤ L) (hc : cells + 60 ≤ 601024) (hs : slots + 1000 ≤ 7293034) (hw : gx_W gx_tb 0 E s σ τ H locs) (hl : lv_has ls 8 [(4, .int (nI n)), (3, .ref (E.2.2 + 233)), (2, .ref (E.2.2 + 199)), (1, .ref (E.2.2 + 0)), (0, .ref b)]) (kk : ∀ (σ : gI) (τ : gJ) (H : Heap) (locs : List Loc) (ls : Array Slot), Z (n + 6) σ τ → gx_W gx_tb 0 E s σ τ H locs → lv_has ls 8 [(4, .int (nI n)), (3, .ref (E.2.2 + 233)), (2, .ref (E.2.2 + 199)), (1, .ref (E.2.2 + 0)), (0, .ref b)] → W P9 l e9 room_1 s m9 #[Value.ref b] below meth C9 H locs (cells + 60) (slots + 1000) Q (F0 m9 1662 ls [])) (hZ0 : Z n σ τ) (hq : lq Z N) : W P9 l e9 room_1 s m9 #[Value.ref b] below meth C9 H locs cells slots Q (F0 m9 33 ls []) := by
  have hx := S.1
  have hb := S.2.1
  obtain ⟨h_d, h_0, h_1, h_2, h_3, h_4, h_5, h_6, h_7, h_8, h_9, h_10, h_11, h_12, h_13, h_14, h_15, h_16, h_17, h_18, h_19, h_20, h_21, h_22, h_23, h_24, h_25, h_26, h_27, h_28, h_29, h_30, h_31, h_32, h_33, h_34, h_35, h_36, h_37, h_38, h_39, h_40⟩ := hq σ τ xs n (by omega) hZ0
  refine lv_aload_n hx hb dL_law_33 rfl (lv_at hl 4 rfl) ?_
  refine lv_iload hx hb dL_law_34 (lv_at hl 0 rfl) ?_
  refine va_sld (i := nI n) hx hb hX hbl hbA hw.2 (vp_in_nI (by omega) (by omega)) dL_law_36 ?_
  refine gx_top (v := xs n) (by rw [nI_clamp (by omega)]) ?_
  refine lv_bipush (v := 63) hx hb dL_law_37 (by decide) ?_
  refine lv_iand hx hb dL_law_39 ?_
  generalize xs n &&& 63 = z
  by_cases c_0 : z = 0
  · refine gx_top (v := 0) c_0 ?_
    refine lv_tableIn (tgt := 220) hx hb dL_law_40 (by decide) (by decide) rfl (by decide) ?_
    exact lc_0 (Z := Z (n + 6)) l hl9 S hK hT9 hA hX hbl hbA N hN hL hn hc hs hw hl kk h_0
  by_cases c_1 : z = 1
  · refine gx_top (v := 1) c_1 ?_
    refine lv_tableIn (tgt := 245) hx hb dL_law_40 (by decide) (by decide) rfl (by decide) ?_
    exact lc_1 (Z := Z (n + 6)) l hl9 S hK hT9 hA hX hbl hbA N hN hL hn hc hs hw hl kk h_1
  by_cases c_2 : z = 2
  · refine gx_top (v := 2) c_2 ?_
    refine lv_tableIn (tgt := 270) hx hb dL_law_40 (by decide) (by decide) rfl (by decide) ?_
    exact lc_2 (Z := Z (n + 6)) l hl9 S hK hT9 hA hX hbl hbA N hN hL hn hc hs hw hl kk h_2
  by_cases c_3 : z = 3
  · refine gx_top (v := 3) c_3 ?_
    refine lv_tableIn (tgt := 283) hx hb dL_law_40 (by decide) (by decide) rfl (by decide) ?_
    exact lc_3 (Z := Z (n + 6)) l hl9 S hK hT9 hA hX hbl hbA N hN hL hn hc hs hw hl kk h_3
  by_cases c_4 : z = 4
  · refine gx_top (v := 4) c_4 ?_
    refine lv_tableIn (tgt := 296) hx hb dL_law_40 (by decide) (by decide) rfl (by decide) ?_
    exact lc_4 (Z := Z (n + 6)) l hl9 S hK hT9 hA hX hbl hbA N hN hL hn hc hs hw hl kk h_4
  by_cases c_5 : z = 5
  · refine gx_top (v := 5) c_5 ?_
    refine lv_tableIn (tgt := 309) hx hb dL_law_40 (by decide) (by decide) rfl (by decide) ?_
    exact lc_5 (Z := Z (n + 6)) l hl9 S hK hT9 hA hX hbl hbA N hN hL hn hc hs hw hl kk h_5
  by_cases c_6 : z = 6
  · refine gx_top (v := 6) c_6 ?_
    refine lv_tableIn (tgt := 349) hx hb dL_law_40 (by decide) (by decide) rfl (by decide) ?_
    exact lc_6 (Z := Z (n + 6)) l hl9 S hK hT9 hA hX hbl hbA N hN hL hn hc hs hw hl kk h_6
  by_cases c_7 : z = 7
  · refine gx_top (v := 7) c_7 ?_
    refine lv_tableIn (tgt := 389) hx hb dL_law_40 (by decide) (by decide) rfl (by decide) ?_
    exact lc_7 (Z := Z (n + 6)) l hl9 S hK hT9 hA hX hbl hbA N hN hL hn hc hs hw hl kk h_7
  by_cases c_8 : z = 8
  · refine gx_top (v := 8) c_8 ?_
    refine lv_tableIn (tgt := 414) hx hb dL_law_40 (by decide) (by decide) rfl (by decide) ?_
    exact lc_8 (Z := Z (n + 6)) l hl9 S hK hT9 hA hX hbl hbA N hN hL hn hc hs hw hl kk h_8
  by_cases c_9 : z = 9
  · refine gx_top (v := 9) c_9 ?_
    refine lv_tableIn (tgt := 451) hx hb dL_law_40 (by decide) (by decide) rfl (by decide) ?_
    exact lc_9 (Z := Z (n + 6)) l hl9 S hK hT9 hA hX hbl hbA N hN hL hn hc hs hw hl kk h_9
  by_cases c_10 : z = 10
  · refine gx_top (v := 10) c_10 ?_
    refine lv_tableIn (tgt := 512) hx hb dL_law_40 (by decide) (by decide) rfl (by decide) ?_
    exact lc_10 (Z := Z (n + 6)) l hl9 S hK hT9 hA hX hbl hbA N hN hL hn hc hs hw hl kk h_10
  by_cases c_11 : z = 11
  · refine gx_top (v := 11) c_11 ?_
    refine lv_tableIn (tgt := 573) hx hb dL_law_40 (by decide) (by decide) rfl (by decide) ?_
    exact lc_11 (Z := Z (n + 6)) l hl9 S hK hT9 hA hX hbl hbA N hN hL hn hc hs hw hl kk h_11
  by_cases c_12 : z = 12
  · refine gx_top (v := 12) c_12 ?_
    refine lv_tableIn (tgt := 610) hx hb dL_law_40 (by decide) (by decide) rfl (by decide) ?_
    exact lc_12 (Z := Z (n + 6)) l hl9 S hK hT9 hA hX hbl hbA N hN hL hn hc hs hw hl kk h_12
  by_cases c_13 : z = 13
  · refine gx_top (v := 13) c_13 ?_
    refine lv_tableIn (tgt := 635) hx hb dL_law_40 (by decide) (by decide) rfl (by decide) ?_
    exact lc_13 (Z := Z (n + 6)) l hl9 S hK hT9 hA hX hbl hbA N hN hL hn hc hs hw hl kk h_13
  by_cases c_14 : z = 14
  · refine gx_top (v := 14) c_14 ?_
    refine lv_tableIn (tgt := 648) hx hb dL_law_40 (by decide) (by decide) rfl (by decide) ?_
    exact lc_14 (Z := Z (n + 6)) l hl9 S hK hT9 hA hX hbl hbA N hN hL hn hc hs hw hl kk h_14
  by_cases c_15 : z = 15
  · refine gx_top (v := 15) c_15 ?_
    refine lv_tableIn (tgt := 661) hx hb dL_law_40 (by decide) (by decide) rfl (by decide) ?_
    exact lc_15 (Z := Z (n + 6)) l hl9 S hK hT9 hA hX hbl hbA N hN hL hn hc hs hw hl kk h_15
  by_cases c_16 : z = 16
  · refine gx_top (v := 16) c_16 ?_
    refine lv_tableIn (tgt := 698) hx hb dL_law_40 (by decide) (by decide) rfl (by decide) ?_
    exact lc_16 (Z := Z (n + 6)) l hl9 S hK hT9 hA hX hbl hbA N hN hL hn hc hs hw hl kk h_16
  by_cases c_17 : z = 17
  · refine gx_top (v := 17) c_17 ?_
    refine lv_tableIn (tgt := 723) hx hb dL_law_40 (by decide) (by decide) rfl (by decide) ?_
    exact lc_17 (Z := Z (n + 6)) l hl9 S hK hT9 hA hX hbl hbA N hN hL hn hc hs hw hl kk h_17
  by_cases c_18 : z = 18
  · refine gx_top (v := 18) c_18 ?_
    refine lv_tableIn (tgt := 748) hx hb dL_law_40 (by decide) (by decide) rfl (by decide) ?_
    exact lc_18 (Z := Z (n + 6)) l hl9 S hK hT9 hA hX hbl hbA N hN hL hn hc hs hw hl kk h_18
  by_cases c_19 : z = 19
  · refine gx_top (v := 19) c_19 ?_
    refine lv_tableIn (tgt := 773) hx hb dL_law_40 (by decide) (by decide) rfl (by decide) ?_
    exact lc_19 (Z := Z (n + 6)) l hl9 S hK hT9 hA hX hbl hbA N hN hL hn hc hs hw hl kk h_19
  by_cases c_20 : z = 20
  · refine gx_top (v := 20) c_20 ?_
    refine lv_tableIn (tgt := 846) hx hb dL_law_40 (by decide) (by decide) rfl (by decide) ?_
    exact lc_20 (Z := Z (n + 6)) l hl9 S hK hT9 hA hX hbl hbA N hN hL hn hc hs hw hl kk h_20
  by_cases c_21 : z = 21
  · refine gx_top (v := 21) c_21 ?_
    refine lv_tableIn (tgt := 895) hx hb dL_law_40 (by decide) (by decide) rfl (by decide) ?_
    exact lc_21 (Z := Z (n + 6)) l hl9 S hK hT9 hA hX hbl hbA N hN hL hn hc hs hw hl kk h_21
  by_cases c_22 : z = 22
  · refine gx_top (v := 22) c_22 ?_
    refine lv_tableIn (tgt := 944) hx hb dL_law_40 (by decide) (by decide) rfl (by decide) ?_
    exact lc_22 (Z := Z (n + 6)) l hl9 S hK hT9 hA hX hbl hbA N hN hL hn hc hs hw hl kk h_22
  by_cases c_23 : z = 23
  · refine gx_top (v := 23) c_23 ?_
    refine lv_tableIn (tgt := 993) hx hb dL_law_40 (by decide) (by decide) rfl (by decide) ?_
    exact lc_23 (Z := Z (n + 6)) l hl9 S hK hT9 hA hX hbl hbA N hN hL hn hc hs hw hl kk h_23
  by_cases c_24 : z = 24
  · refine gx_top (v := 24) c_24 ?_
    refine lv_tableIn (tgt := 1042) hx hb dL_law_40 (by decide) (by decide) rfl (by decide) ?_
    exact lc_24 (Z := Z (n + 6)) l hl9 S hK hT9 hA hX hbl hbA N hN hL hn hc hs hw hl kk h_24
  by_cases c_25 : z = 25
  · refine gx_top (v := 25) c_25 ?_
    refine lv_tableIn (tgt := 1103) hx hb dL_law_40 (by decide) (by decide) rfl (by decide) ?_
    exact lc_25 (Z := Z (n + 6)) l hl9 S hK hT9 hA hX hbl hbA N hN hL hn hc hs hw hl kk h_25
  by_cases c_26 : z = 26
  · refine gx_top (v := 26) c_26 ?_
    refine lv_tableIn (tgt := 1128) hx hb dL_law_40 (by decide) (by decide) rfl (by decide) ?_
    exact lc_26 (Z := Z (n + 6)) l hl9 S hK hT9 hA hX hbl hbA N hN hL hn hc hs hw hl kk h_26
  by_cases c_27 : z = 27
  · refine gx_top (v := 27) c_27 ?_
    refine lv_tableIn (tgt := 1153) hx hb dL_law_40 (by decide) (by decide) rfl (by decide) ?_
    exact lc_27 (Z := Z (n + 6)) l hl9 S hK hT9 hA hX hbl hbA N hN hL hn hc hs hw hl kk h_27
  by_cases c_28 : z = 28
  · refine gx_top (v := 28) c_28 ?_
    refine lv_tableIn (tgt := 1190) hx hb dL_law_40 (by decide) (by decide) rfl (by decide) ?_
    exact lc_28 (Z := Z (n + 6)) l hl9 S hK hT9 hA hX hbl hbA N hN hL hn hc hs hw hl kk h_28
  by_cases c_29 : z = 29
  · refine gx_top (v := 29) c_29 ?_
    refine lv_tableIn (tgt := 1251) hx hb dL_law_40 (by decide) (by decide) rfl (by decide) ?_
    exact lc_29 (Z := Z (n + 6)) l hl9 S hK hT9 hA hX hbl hbA N hN hL hn hc hs hw hl kk h_29
  by_cases c_30 : z = 30
  · refine gx_top (v := 30) c_30 ?_
    refine lv_tableIn (tgt := 1324) hx hb dL_law_40 (by decide) (by decide) rfl (by decide) ?_
    exact lc_30 (Z := Z (n + 6)) l hl9 S hK hT9 hA hX hbl hbA N hN hL hn hc hs hw hl kk h_30
  by_cases c_31 : z = 31
  · refine gx_top (v := 31) c_31 ?_
    refine lv_tableIn (tgt := 1373) hx hb dL_law_40 (by decide) (by decide) rfl (by decide) ?_
    exact lc_31 (Z := Z (n + 6)) l hl9 S hK hT9 hA hX hbl hbA N hN hL hn hc hs hw hl kk h_31
  by_cases c_32 : z = 32
  · refine gx_top (v := 32) c_32 ?_
    refine lv_tableIn (tgt := 1386) hx hb dL_law_40 (by decide) (by decide) rfl (by decide) ?_
    exact lc_32 (Z := Z (n + 6)) l hl9 S hK hT9 hA hX hbl hbA N hN hL hn hc hs hw hl kk h_32
  by_cases c_33 : z = 33
  · refine gx_top (v := 33) c_33 ?_
    refine lv_tableIn (tgt := 1399) hx hb dL_law_40 (by decide) (by decide) rfl (by decide) ?_
    exact lc_33 (Z := Z (n + 6)) l hl9 S hK hT9 hA hX hbl hbA N hN hL hn hc hs hw hl kk h_33
  by_cases c_34 : z = 34
  · refine gx_top (v := 34) c_34 ?_
    refine lv_tableIn (tgt := 1424) hx hb dL_law_40 (by decide) (by decide) rfl (by decide) ?_
    exact lc_34 (Z := Z (n + 6)) l hl9 S hK hT9 hA hX hbl hbA N hN hL hn hc hs hw hl kk h_34
  by_cases c_35 : z = 35
  · refine gx_top (v := 35) c_35 ?_
    refine lv_tableIn (tgt := 1473) hx hb dL_law_40 (by decide) (by decide) rfl (by decide) ?_
    exact lc_35 (Z := Z (n + 6)) l hl9 S hK hT9 hA hX hbl hbA N hN hL hn hc hs hw hl kk h_35
  by_cases c_36 : z = 36
  · refine gx_top (v := 36) c_36 ?_
    refine lv_tableIn (tgt := 1522) hx hb dL_law_40 (by decide) (by decide) rfl (by decide) ?_
    exact lc_36 (Z := Z (n + 6)) l hl9 S hK hT9 hA hX hbl hbA N hN hL hn hc hs hw hl kk h_36
  by_cases c_37 : z = 37
  · refine gx_top (v := 37) c_37 ?_
    refine lv_tableIn (tgt := 1559) hx hb dL_law_40 (by decide) (by decide) rfl (by decide) ?_
    exact lc_37 (Z := Z (n + 6)) l hl9 S hK hT9 hA hX hbl hbA N hN hL hn hc hs hw hl kk h_37
  by_cases c_38 : z = 38
  · refine gx_top (v := 38) c_38 ?_
    refine lv_tableIn (tgt := 1584) hx hb dL_law_40 (by decide) (by decide) rfl (by decide) ?_
    exact lc_38 (Z := Z (n + 6)) l hl9 S hK hT9 hA hX hbl hbA N hN hL hn hc hs hw hl kk h_38
  by_cases c_39 : z = 39
  · refine gx_top (v := 39) c_39 ?_
    refine lv_tableIn (tgt := 1609) hx hb dL_law_40 (by decide) (by decide) rfl (by decide) ?_
    exact lc_39 (Z := Z (n + 6)) l hl9 S hK hT9 hA hX hbl hbA N hN hL hn hc hs hw hl kk h_39
  by_cases c_40 : z = 40
  · refine gx_top (v := 40) c_40 ?_
    refine lv_tableIn (tgt := 1634) hx hb dL_law_40 (by decide) (by decide) rfl (by decide) ?_
    exact lc_40 (Z := Z (n + 6)) l hl9 S hK hT9 hA hX hbl hbA N hN hL hn hc hs hw hl kk h_40
  refine lv_tableOut (tgt := 1662) hx hb dL_law_40 ?_ (by decide) ?_
  · have t_0 := lv_neT (a := 0) c_0 rfl
    have t_1 := lv_neT (a := 1) c_1 rfl
    have t_2 := lv_neT (a := 2) c_2 rfl
    have t_3 := lv_neT (a := 3) c_3 rfl
    have t_4 := lv_neT (a := 4) c_4 rfl
    have t_5 := lv_neT (a := 5) c_5 rfl
    have t_6 := lv_neT (a := 6) c_6 rfl
    have t_7 := lv_neT (a := 7) c_7 rfl
    have t_8 := lv_neT (a := 8) c_8 rfl
    have t_9 := lv_neT (a := 9) c_9 rfl
    have t_10 := lv_neT (a := 10) c_10 rfl
    have t_11 := lv_neT (a := 11) c_11 rfl
    have t_12 := lv_neT (a := 12) c_12 rfl
    have t_13 := lv_neT (a := 13) c_13 rfl
    have t_14 := lv_neT (a := 14) c_14 rfl
    have t_15 := lv_neT (a := 15) c_15 rfl
    have t_16 := lv_neT (a := 16) c_16 rfl
    have t_17 := lv_neT (a := 17) c_17 rfl
    have t_18 := lv_neT (a := 18) c_18 rfl
    have t_19 := lv_neT (a := 19) c_19 rfl
    have t_20 := lv_neT (a := 20) c_20 rfl
    have t_21 := lv_neT (a := 21) c_21 rfl
    have t_22 := lv_neT (a := 22) c_22 rfl
    have t_23 := lv_neT (a := 23) c_23 rfl
    have t_24 := lv_neT (a := 24) c_24 rfl
    have t_25 := lv_neT (a := 25) c_25 rfl
    have t_26 := lv_neT (a := 26) c_26 rfl
    have t_27 := lv_neT (a := 27) c_27 rfl
    have t_28 := lv_neT (a := 28) c_28 rfl
    have t_29 := lv_neT (a := 29) c_29 rfl
    have t_30 := lv_neT (a := 30) c_30 rfl
    have t_31 := lv_neT (a := 31) c_31 rfl
    have t_32 := lv_neT (a := 32) c_32 rfl
    have t_33 := lv_neT (a := 33) c_33 rfl
    have t_34 := lv_neT (a := 34) c_34 rfl
    have t_35 := lv_neT (a := 35) c_35 rfl
    have t_36 := lv_neT (a := 36) c_36 rfl
    have t_37 := lv_neT (a := 37) c_37 rfl
    have t_38 := lv_neT (a := 38) c_38 rfl
    have t_39 := lv_neT (a := 39) c_39 rfl
    have t_40 := lv_neT (a := 40) c_40 rfl
    omega
  · refine W.widen (k := cells + 60) (n := slots + 1000) (by omega) (by omega) ?_
    exact kk _ _ _ _ _ h_d hw hl
set_option maxHeartbeats 4000000 in
set_option maxRecDepth 100000 in
theorem lc_loop (l : Launch) (hl9 : l.stackTraces = false) (S : CallFix P9 m9 C9 cL_law 8 s #[Value.ref b] gx_G RL) (hK : gx_K E s) (hT9 : gx_T s) (hA : gx_Ok gx_tb 0 E s) (hX : va_X b L xs s s.heap) (hbl : b < s.heap.size) (hbA : ¬ gx_A 0 E.2.2 s.heap.size b) (N : Nat) (hN : 4294967296 ≤ N) (hL : L ≤ 3072) (hq : lq Z N) (kend : ∀ (σ : gI) (τ : gJ) (H : Heap) (locs : List Loc) (ls : Array Slot) (cells slots : Nat), cells ≤ 30954 → slots ≤ 532153 → gx_W gx_tb 0 E s σ τ H locs → ls.size = 8 → W P9 l e9 room_1 s m9 #[Value.ref b] below meth C9 H locs cells slots Q (F0 m9 1668 ls [])) : ∀ (f j : Nat), L < 6 * (j + f) + 6 → j ≤ 512 → ∀ (σ : gI) (τ : gJ) (H : Heap) (locs : List Loc) (ls : Array Slot), Z (6 * j) σ τ → gx_W gx_tb 0 E s σ τ H locs → lv_has ls 8 [(4, .int (nI (6 * j))), (3, .ref (E.2.2 + 233)), (2, .ref (E.2.2 + 199)), (1, .ref (E.2.2 + 0)), (0, .ref b)] → W P9 l e9 room_1 s m9 #[Value.ref b] below meth C9 H locs (234 + 60 * j) (20153 + 1000 * j) Q (F0 m9 23 ls []) := by
  have hx := S.1
  have hb := S.2.1
  intro f
  induction f with
  | zero =>
    intro j hj hj2 σ τ H locs ls hZ hw hl
    refine lv_iload hx hb dL_law_23 (lv_at hl 0 rfl) ?_
    refine lv_aload_n hx hb dL_law_25 rfl (lv_at hl 4 rfl) ?_
    refine va_slen hx hb hX hbl hbA hw.2 dL_law_26 ?_
    refine lv_bipush (v := 6) hx hb dL_law_27 (by decide) ?_
    refine lv_isub hx hb dL_law_29 ?_
    refine lv_icmp_gt (tgt := 1668) hx hb dL_law_30 (by decide) (fun _ => ?_) (fun h => absurd ((lp_cmp hL (by omega)).mpr (by omega)) h)
    exact kend _ _ _ _ _ _ _ (by omega) (by omega) hw hl.1
  | succ f ih =>
    intro j hj hj2 σ τ H locs ls hZ hw hl
    refine lv_iload hx hb dL_law_23 (lv_at hl 0 rfl) ?_
    refine lv_aload_n hx hb dL_law_25 rfl (lv_at hl 4 rfl) ?_
    refine va_slen hx hb hX hbl hbA hw.2 dL_law_26 ?_
    refine lv_bipush (v := 6) hx hb dL_law_27 (by decide) ?_
    refine lv_isub hx hb dL_law_29 ?_
    refine lv_icmp_gt (tgt := 1668) hx hb dL_law_30 (by decide) (fun _ => ?_) (fun h => ?_)
    · exact kend _ _ _ _ _ _ _ (by omega) (by omega) hw hl.1
    · have h6 : ¬ L < 6 * j + 6 := fun q => h ((lp_cmp hL (by omega)).mpr q)
      refine lc_sw (n := 6 * j) l hl9 S hK hT9 hA hX hbl hbA N hN hL (by omega) (by omega) (by omega) hw hl (fun σ τ H locs ls hZ hw hl => ?_) hZ hq
      refine lv_iinc (v := nI (6 * (j + 1))) (lv' := [(4, .int (nI (6 * (j + 1)))), (3, .ref (E.2.2 + 233)), (2, .ref (E.2.2 + 199)), (1, .ref (E.2.2 + 0)), (0, .ref b)]) hx hb dL_law_1662 hl (k := 0) rfl (by rw [show Int32.ofInt 6 = nI 6 from rfl, nI_add]; rfl) (by decide) rfl (fun ls hl => ?_)
      refine lv_goto (tgt := 23) hx hb dL_law_1665 (by decide) ?_
      refine W.widen (k := 234 + 60 * (j + 1)) (n := 20153 + 1000 * (j + 1)) (by omega) (by omega) ?_
      have e6 : 6 * (j + 1) = 6 * j + 6 := by omega
      exact ih (j + 1) (by omega) (by omega) σ τ H locs ls (by rw [e6]; exact hZ) hw hl
end LOOP
