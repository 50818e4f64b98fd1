def b_Signs (n : Nat) : List gD := @HAppend.hAppend (List gD) (List gD) (List gD) _ ([.inl (8, [some (some (n + 1)), none, none])]) ([.inr (0, 80, [])])
set_option maxHeartbeats 4000000 in
set_option maxRecDepth 100000 in
theorem k_Signs (l : Launch) {E : gE} (tb : List gD) (n : Nat) (hn : tb.length = n) (σ : gI) (τ : gJ) (h0 : ∀ c k : Nat, n ≤ c → σ c k = 0) (t0 : ∀ c k : Nat, n ≤ c → τ c k = 0) : gx_Mc l yX7_init cX7_init 1 1 1 80 (tb ++ [.inl (8, [some none, none, none])]) (tb ++ b_Signs n) E σ (σ) τ [.ref (E.2.2 + (n + 0))] := by
  refine y_b (by decide +kernel) (Nat.le_of_ble_eq_true rfl) ?_
  intro P9 e9 s m9 below meth C9 S hr hlk hnm hK hN hA hY ls hl
  have S : CallFix P9 m9 C9 cX7_init 1 s _ gx_G RX7 := S
  have hx := S.1
  have hb := S.2.1
  have hl : lv_has ls 1 [(0, .ref (E.2.2 + (n + 0)))] := hl
  refine lv_aload_n hx hb dX7_init_0 rfl (lv_at hl 0 rfl) ?_
  refine gx_obj S mw_128 mw_121 mw_122 hl.1 dX7_init_1 ⟨Nat.le_of_ble_eq_true rfl, Nat.le_of_ble_eq_true rfl⟩ ?_
  refine lv_aload_n hx hb dX7_init_4 rfl (lv_at hl 0 rfl) ?_
  refine lv_bipush (v := 80) hx hb dX7_init_5 (by decide) ?_
  refine y_newI S hK hY hn 1 rfl (N := 80) (by decide) (by decide) (by decide) (fun c9 k9 h9 => h0 c9 k9 (by omega)) mw_141 ⟨Nat.le_of_ble_eq_true rfl, Nat.le_of_ble_eq_true rfl⟩ dX7_init_7 (fun H hY => ?_)
  refine y_putF S hK hA hY hn 0 rfl cl_8 0 (Nat.le_of_ble_eq_true rfl) (Nat.le_of_ble_eq_true rfl) mw_129 rfl ⟨rfl, hnm, rfl⟩ (ty := .array .int) (j := (n + 1)) (by decide +kernel) rfl rfl dX7_init_9 (fun H locs hY => ?_)
  have hY : gx_Y tb (@HAppend.hAppend (List gD) (List gD) (List gD) _ ([.inl (8, [some (some (n + 1)), none, none])]) ([.inr (0, 80, [])])) _ E s (σ) τ H _ := hY
  have hY : gx_Y tb (b_Signs n) _ E s (σ) τ H _ := hY
  exact y_r S hr hlk hY dX7_init_12
def b_Town (n : Nat) : List gD := @HAppend.hAppend (List gD) (List gD) (List gD) _ (@HAppend.hAppend (List gD) (List gD) (List gD) _ (@HAppend.hAppend (List gD) (List gD) (List gD) _ (@HAppend.hAppend (List gD) (List gD) (List gD) _ (@HAppend.hAppend (List gD) (List gD) (List gD) _ ([.inl (9, [some (some (n + 1)), some (some (n + 2)), some (some (n + 3)), some (some (n + 4)), some (some (n + 5)), none, none, none, none])]) ([.inr (0, 12, [])])) ([.inr (0, 12, [])])) ([.inr (0, 12, [])])) ([.inr (0, 12, [])])) ([.inr (0, 12, [])])
set_option maxHeartbeats 4000000 in
set_option maxRecDepth 100000 in
theorem k_Town (l : Launch) {E : gE} (tb : List gD) (n : Nat) (hn : tb.length = n) (σ : gI) (τ : gJ) (h0 : ∀ c k : Nat, n ≤ c → σ c k = 0) (t0 : ∀ c k : Nat, n ≤ c → τ c k = 0) : gx_Mc l yX8_init cX8_init 1 1 5 60 (tb ++ [.inl (9, [some none, some none, some none, some none, some none, none, none, none, none])]) (tb ++ b_Town n) E σ (up2 (σ) (n + 0) 8 1) τ [.ref (E.2.2 + (n + 0))] := by
  refine y_b (by decide +kernel) (Nat.le_of_ble_eq_true rfl) ?_
  intro P9 e9 s m9 below meth C9 S hr hlk hnm hK hN hA hY ls hl
  have S : CallFix P9 m9 C9 cX8_init 1 s _ gx_G RX8 := S
  have hx := S.1
  have hb := S.2.1
  have hl : lv_has ls 1 [(0, .ref (E.2.2 + (n + 0)))] := hl
  refine lv_aload_n hx hb dX8_init_0 rfl (lv_at hl 0 rfl) ?_
  refine gx_obj S mw_147 mw_121 mw_122 hl.1 dX8_init_1 ⟨Nat.le_of_ble_eq_true rfl, Nat.le_of_ble_eq_true rfl⟩ ?_
  refine lv_aload_n hx hb dX8_init_4 rfl (lv_at hl 0 rfl) ?_
  refine lv_bipush (v := 12) hx hb dX8_init_5 (by decide) ?_
  refine y_newI S hK hY hn 1 rfl (N := 12) (by decide) (by decide) (by decide) (fun c9 k9 h9 => h0 c9 k9 (by omega)) mw_141 ⟨Nat.le_of_ble_eq_true rfl, Nat.le_of_ble_eq_true rfl⟩ dX8_init_7 (fun H hY => ?_)
  refine y_putF S hK hA hY hn 0 rfl cl_9 0 (Nat.le_of_ble_eq_true rfl) (Nat.le_of_ble_eq_true rfl) mw_148 rfl ⟨rfl, hnm, rfl⟩ (ty := .array .int) (j := (n + 1)) (by decide +kernel) rfl rfl dX8_init_9 (fun H locs hY => ?_)
  have hY : gx_Y tb (@HAppend.hAppend (List gD) (List gD) (List gD) _ ([.inl (9, [some (some (n + 1)), some none, some none, some none, some none, none, none, none, none])]) ([.inr (0, 12, [])])) _ E s (σ) τ H _ := hY
  refine lv_aload_n hx hb dX8_init_12 rfl (lv_at hl 0 rfl) ?_
  refine lv_bipush (v := 12) hx hb dX8_init_13 (by decide) ?_
  refine y_newI S hK hY hn 2 rfl (N := 12) (by decide) (by decide) (by decide) (fun c9 k9 h9 => h0 c9 k9 (by omega)) mw_141 ⟨Nat.le_of_ble_eq_true rfl, Nat.le_of_ble_eq_true rfl⟩ dX8_init_15 (fun H hY => ?_)
  refine y_putF S hK hA hY hn 0 rfl cl_9 1 (Nat.le_of_ble_eq_true rfl) (Nat.le_of_ble_eq_true rfl) mw_149 rfl ⟨rfl, hnm, rfl⟩ (ty := .array .int) (j := (n + 2)) (by decide +kernel) rfl rfl dX8_init_17 (fun H locs hY => ?_)
  have hY : gx_Y tb (@HAppend.hAppend (List gD) (List gD) (List gD) _ (@HAppend.hAppend (List gD) (List gD) (List gD) _ ([.inl (9, [some (some (n + 1)), some (some (n + 2)), some none, some none, some none, none, none, none, none])]) ([.inr (0, 12, [])])) ([.inr (0, 12, [])])) _ E s (σ) τ H _ := hY
  refine lv_aload_n hx hb dX8_init_20 rfl (lv_at hl 0 rfl) ?_
  refine lv_bipush (v := 12) hx hb dX8_init_21 (by decide) ?_
  refine y_newI S hK hY hn 3 rfl (N := 12) (by decide) (by decide) (by decide) (fun c9 k9 h9 => h0 c9 k9 (by omega)) mw_141 ⟨Nat.le_of_ble_eq_true rfl, Nat.le_of_ble_eq_true rfl⟩ dX8_init_23 (fun H hY => ?_)
  refine y_putF S hK hA hY hn 0 rfl cl_9 2 (Nat.le_of_ble_eq_true rfl) (Nat.le_of_ble_eq_true rfl) mw_150 rfl ⟨rfl, hnm, rfl⟩ (ty := .array .int) (j := (n + 3)) (by decide +kernel) rfl rfl dX8_init_25 (fun H locs hY => ?_)
  have hY : gx_Y tb (@HAppend.hAppend (List gD) (List gD) (List gD) _ (@HAppend.hAppend (List gD) (List gD) (List gD) _ (@HAppend.hAppend (List gD) (List gD) (List gD) _ ([.inl (9, [some (some (n + 1)), some (some (n + 2)), some (some (n + 3)), some none, some none, none, none, none, none])]) ([.inr (0, 12, [])])) ([.inr (0, 12, [])])) ([.inr (0, 12, [])])) _ E s (σ) τ H _ := hY
  refine lv_aload_n hx hb dX8_init_28 rfl (lv_at hl 0 rfl) ?_
  refine lv_bipush (v := 12) hx hb dX8_init_29 (by decide) ?_
  refine y_newI S hK hY hn 4 rfl (N := 12) (by decide) (by decide) (by decide) (fun c9 k9 h9 => h0 c9 k9 (by omega)) mw_141 ⟨Nat.le_of_ble_eq_true rfl, Nat.le_of_ble_eq_true rfl⟩ dX8_init_31 (fun H hY => ?_)
  refine y_putF S hK hA hY hn 0 rfl cl_9 3 (Nat.le_of_ble_eq_true rfl) (Nat.le_of_ble_eq_true rfl) mw_151 rfl ⟨rfl, hnm, rfl⟩ (ty := .array .int) (j := (n + 4)) (by decide +kernel) rfl rfl dX8_init_33 (fun H locs hY => ?_)
  have hY : gx_Y tb (@HAppend.hAppend (List gD) (List gD) (List gD) _ (@HAppend.hAppend (List gD) (List gD) (List gD) _ (@HAppend.hAppend (List gD) (List gD) (List gD) _ (@HAppend.hAppend (List gD) (List gD) (List gD) _ ([.inl (9, [some (some (n + 1)), some (some (n + 2)), some (some (n + 3)), some (some (n + 4)), some none, none, none, none, none])]) ([.inr (0, 12, [])])) ([.inr (0, 12, [])])) ([.inr (0, 12, [])])) ([.inr (0, 12, [])])) _ E s (σ) τ H _ := hY
  refine lv_aload_n hx hb dX8_init_36 rfl (lv_at hl 0 rfl) ?_
  refine lv_bipush (v := 12) hx hb dX8_init_37 (by decide) ?_
  refine y_newI S hK hY hn 5 rfl (N := 12) (by decide) (by decide) (by decide) (fun c9 k9 h9 => h0 c9 k9 (by omega)) mw_141 ⟨Nat.le_of_ble_eq_true rfl, Nat.le_of_ble_eq_true rfl⟩ dX8_init_39 (fun H hY => ?_)
  refine y_putF S hK hA hY hn 0 rfl cl_9 4 (Nat.le_of_ble_eq_true rfl) (Nat.le_of_ble_eq_true rfl) mw_152 rfl ⟨rfl, hnm, rfl⟩ (ty := .array .int) (j := (n + 5)) (by decide +kernel) rfl rfl dX8_init_41 (fun H locs hY => ?_)
  have hY : gx_Y tb (@HAppend.hAppend (List gD) (List gD) (List gD) _ (@HAppend.hAppend (List gD) (List gD) (List gD) _ (@HAppend.hAppend (List gD) (List gD) (List gD) _ (@HAppend.hAppend (List gD) (List gD) (List gD) _ (@HAppend.hAppend (List gD) (List gD) (List gD) _ ([.inl (9, [some (some (n + 1)), some (some (n + 2)), some (some (n + 3)), some (some (n + 4)), some (some (n + 5)), none, none, none, none])]) ([.inr (0, 12, [])])) ([.inr (0, 12, [])])) ([.inr (0, 12, [])])) ([.inr (0, 12, [])])) ([.inr (0, 12, [])])) _ E s (σ) τ H _ := hY
  refine lv_aload_n hx hb dX8_init_44 rfl (lv_at hl 0 rfl) ?_
  refine lv_iconst (v := 1) hx hb dX8_init_45 (by decide) ?_
  refine y_putI S hK hA hY hn 0 rfl cl_9 8 (by decide) rfl mw_159 rfl rfl (ty := .int) (v := 1) (by decide +kernel) rfl rfl dX8_init_46 (fun H locs hY => ?_)
  have hY : gx_Y tb (@HAppend.hAppend (List gD) (List gD) (List gD) _ (@HAppend.hAppend (List gD) (List gD) (List gD) _ (@HAppend.hAppend (List gD) (List gD) (List gD) _ (@HAppend.hAppend (List gD) (List gD) (List gD) _ (@HAppend.hAppend (List gD) (List gD) (List gD) _ ([.inl (9, [some (some (n + 1)), some (some (n + 2)), some (some (n + 3)), some (some (n + 4)), some (some (n + 5)), none, none, none, none])]) ([.inr (0, 12, [])])) ([.inr (0, 12, [])])) ([.inr (0, 12, [])])) ([.inr (0, 12, [])])) ([.inr (0, 12, [])])) _ E s (up2 (σ) (n + 0) 8 1) τ H _ := hY
  have hY : gx_Y tb (b_Town n) _ E s (up2 (σ) (n + 0) 8 1) τ H _ := hY
  exact y_r S hr hlk hY dX8_init_49
def b_Water (n : Nat) : List gD := @HAppend.hAppend (List gD) (List gD) (List gD) _ ([.inl (11, [some (some (n + 1)), none])]) ([.inr (0, 40, [])])
set_option maxHeartbeats 4000000 in
set_option maxRecDepth 100000 in
theorem k_Water (l : Launch) {E : gE} (tb : List gD) (n : Nat) (hn : tb.length = n) (σ : gI) (τ : gJ) (h0 : ∀ c k : Nat, n ≤ c → σ c k = 0) (t0 : ∀ c k : Nat, n ≤ c → τ c k = 0) : gx_Mc l yX10_init cX10_init 1 1 1 40 (tb ++ [.inl (11, [some none, none])]) (tb ++ b_Water n) E σ (σ) τ [.ref (E.2.2 + (n + 0))] := by
  refine y_b (by decide +kernel) (Nat.le_of_ble_eq_true rfl) ?_
  intro P9 e9 s m9 below meth C9 S hr hlk hnm hK hN hA hY ls hl
  have S : CallFix P9 m9 C9 cX10_init 1 s _ gx_G RX10 := S
  have hx := S.1
  have hb := S.2.1
  have hl : lv_has ls 1 [(0, .ref (E.2.2 + (n + 0)))] := hl
  refine lv_aload_n hx hb dX10_init_0 rfl (lv_at hl 0 rfl) ?_
  refine gx_obj S mw_186 mw_121 mw_122 hl.1 dX10_init_1 ⟨Nat.le_of_ble_eq_true rfl, Nat.le_of_ble_eq_true rfl⟩ ?_
  refine lv_aload_n hx hb dX10_init_4 rfl (lv_at hl 0 rfl) ?_
  refine lv_bipush (v := 40) hx hb dX10_init_5 (by decide) ?_
  refine y_newI S hK hY hn 1 rfl (N := 40) (by decide) (by decide) (by decide) (fun c9 k9 h9 => h0 c9 k9 (by omega)) mw_141 ⟨Nat.le_of_ble_eq_true rfl, Nat.le_of_ble_eq_true rfl⟩ dX10_init_7 (fun H hY => ?_)
  refine y_putF S hK hA hY hn 0 rfl cl_11 0 (Nat.le_of_ble_eq_true rfl) (Nat.le_of_ble_eq_true rfl) mw_187 rfl ⟨rfl, hnm, rfl⟩ (ty := .array .int) (j := (n + 1)) (by decide +kernel) rfl rfl dX10_init_9 (fun H locs hY => ?_)
  have hY : gx_Y tb (@HAppend.hAppend (List gD) (List gD) (List gD) _ ([.inl (11, [some (some (n + 1)), none])]) ([.inr (0, 40, [])])) _ E s (σ) τ H _ := hY
  have hY : gx_Y tb (b_Water n) _ E s (σ) τ H _ := hY
  exact y_r S hr hlk hY dX10_init_12
def b_Rule (n : Nat) : List gD := @HAppend.hAppend (List gD) (List gD) (List gD) _ (@HAppend.hAppend (List gD) (List gD) (List gD) _ (@HAppend.hAppend (List gD) (List gD) (List gD) _ ([.inl (6, [some (some (n + 1)), some (some (n + 2)), some (some (n + 3)), none, none, none, none, none, none, none, none])]) ([.inr (0, 40, [])])) ([.inr (0, 40, [])])) ([.inr (0, 40, [])])
set_option maxHeartbeats 4000000 in
set_option maxRecDepth 100000 in
theorem k_Rule (l : Launch) {E : gE} (tb : List gD) (n : Nat) (hn : tb.length = n) (σ : gI) (τ : gJ) (h0 : ∀ c k : Nat, n ≤ c → σ c k = 0) (t0 : ∀ c k : Nat, n ≤ c → τ c k = 0) : gx_Mc l yX5_init cX5_init 1 1 3 120 (tb ++ [.inl (6, [some none, some none, some none, none, none, none, none, none, none, none, none])]) (tb ++ b_Rule n) E σ (up2 (up2 (σ) (n + 0) 3 1) (n + 0) 9 1) τ [.ref (E.2.2 + (n + 0))] := by
  refine y_b (by decide +kernel) (Nat.le_of_ble_eq_true rfl) ?_
  intro P9 e9 s m9 below meth C9 S hr hlk hnm hK hN hA hY ls hl
  have S : CallFix P9 m9 C9 cX5_init 1 s _ gx_G RX5 := S
  have hx := S.1
  have hb := S.2.1
  have hl : lv_has ls 1 [(0, .ref (E.2.2 + (n + 0)))] := hl
  refine lv_aload_n hx hb dX5_init_0 rfl (lv_at hl 0 rfl) ?_
  refine gx_obj S mw_199 mw_121 mw_122 hl.1 dX5_init_1 ⟨Nat.le_of_ble_eq_true rfl, Nat.le_of_ble_eq_true rfl⟩ ?_
  refine lv_aload_n hx hb dX5_init_4 rfl (lv_at hl 0 rfl) ?_
  refine lv_bipush (v := 40) hx hb dX5_init_5 (by decide) ?_
  refine y_newI S hK hY hn 1 rfl (N := 40) (by decide) (by decide) (by decide) (fun c9 k9 h9 => h0 c9 k9 (by omega)) mw_141 ⟨Nat.le_of_ble_eq_true rfl, Nat.le_of_ble_eq_true rfl⟩ dX5_init_7 (fun H hY => ?_)
  refine y_putF S hK hA hY hn 0 rfl cl_6 0 (Nat.le_of_ble_eq_true rfl) (Nat.le_of_ble_eq_true rfl) mw_200 rfl ⟨rfl, hnm, rfl⟩ (ty := .array .int) (j := (n + 1)) (by decide +kernel) rfl rfl dX5_init_9 (fun H locs hY => ?_)
  have hY : gx_Y tb (@HAppend.hAppend (List gD) (List gD) (List gD) _ ([.inl (6, [some (some (n + 1)), some none, some none, none, none, none, none, none, none, none, none])]) ([.inr (0, 40, [])])) _ E s (σ) τ H _ := hY
  refine lv_aload_n hx hb dX5_init_12 rfl (lv_at hl 0 rfl) ?_
  refine lv_bipush (v := 40) hx hb dX5_init_13 (by decide) ?_
  refine y_newI S hK hY hn 2 rfl (N := 40) (by decide) (by decide) (by decide) (fun c9 k9 h9 => h0 c9 k9 (by omega)) mw_141 ⟨Nat.le_of_ble_eq_true rfl, Nat.le_of_ble_eq_true rfl⟩ dX5_init_15 (fun H hY => ?_)
  refine y_putF S hK hA hY hn 0 rfl cl_6 1 (Nat.le_of_ble_eq_true rfl) (Nat.le_of_ble_eq_true rfl) mw_201 rfl ⟨rfl, hnm, rfl⟩ (ty := .array .int) (j := (n + 2)) (by decide +kernel) rfl rfl dX5_init_17 (fun H locs hY => ?_)
  have hY : gx_Y tb (@HAppend.hAppend (List gD) (List gD) (List gD) _ (@HAppend.hAppend (List gD) (List gD) (List gD) _ ([.inl (6, [some (some (n + 1)), some (some (n + 2)), some none, none, none, none, none, none, none, none, none])]) ([.inr (0, 40, [])])) ([.inr (0, 40, [])])) _ E s (σ) τ H _ := hY
  refine lv_aload_n hx hb dX5_init_20 rfl (lv_at hl 0 rfl) ?_
  refine lv_bipush (v := 40) hx hb dX5_init_21 (by decide) ?_
  refine y_newI S hK hY hn 3 rfl (N := 40) (by decide) (by decide) (by decide) (fun c9 k9 h9 => h0 c9 k9 (by omega)) mw_141 ⟨Nat.le_of_ble_eq_true rfl, Nat.le_of_ble_eq_true rfl⟩ dX5_init_23 (fun H hY => ?_)
  refine y_putF S hK hA hY hn 0 rfl cl_6 2 (Nat.le_of_ble_eq_true rfl) (Nat.le_of_ble_eq_true rfl) mw_202 rfl ⟨rfl, hnm, rfl⟩ (ty := .array .int) (j := (n + 3)) (by decide +kernel) rfl rfl dX5_init_25 (fun H locs hY => ?_)
  have hY : gx_Y tb (@HAppend.hAppend (List gD) (List gD) (List gD) _ (@HAppend.hAppend (List gD) (List gD) (List gD) _ (@HAppend.hAppend (List gD) (List gD) (List gD) _ ([.inl (6, [some (some (n + 1)), some (some (n + 2)), some (some (n + 3)), none, none, none, none, none, none, none, none])]) ([.inr (0, 40, [])])) ([.inr (0, 40, [])])) ([.inr (0, 40, [])])) _ E s (σ) τ H _ := hY
  refine lv_aload_n hx hb dX5_init_28 rfl (lv_at hl 0 rfl) ?_
  refine y_getr (j := (n + 1)) S hK hY hn 0 rfl cl_6 0 (by decide) rfl mw_200 rfl dX5_init_29 ?_
  refine lv_iconst (v := 0) hx hb dX5_init_32 (by decide) ?_
  refine lv_iconst (v := 0) hx hb dX5_init_33 (by decide) ?_
  refine y_iast S hK hA hY hn 1 rfl 0 rfl (gx_in rfl (by decide) (by decide)) dX5_init_34 (fun H locs hY => ?_)
  rw [up2_id (show (σ) (n + 1) 0 = 0 from h0 _ _ (by omega))] at hY
  have hY : gx_Y tb (@HAppend.hAppend (List gD) (List gD) (List gD) _ (@HAppend.hAppend (List gD) (List gD) (List gD) _ (@HAppend.hAppend (List gD) (List gD) (List gD) _ ([.inl (6, [some (some (n + 1)), some (some (n + 2)), some (some (n + 3)), none, none, none, none, none, none, none, none])]) ([.inr (0, 40, [])])) ([.inr (0, 40, [])])) ([.inr (0, 40, [])])) _ E s (σ) τ H _ := hY
  refine lv_aload_n hx hb dX5_init_35 rfl (lv_at hl 0 rfl) ?_
  refine lv_iconst (v := 1) hx hb dX5_init_36 (by decide) ?_
  refine y_putI S hK hA hY hn 0 rfl cl_6 3 (by decide) rfl mw_203 rfl rfl (ty := .int) (v := 1) (by decide +kernel) rfl rfl dX5_init_37 (fun H locs hY => ?_)
  have hY : gx_Y tb (@HAppend.hAppend (List gD) (List gD) (List gD) _ (@HAppend.hAppend (List gD) (List gD) (List gD) _ (@HAppend.hAppend (List gD) (List gD) (List gD) _ ([.inl (6, [some (some (n + 1)), some (some (n + 2)), some (some (n + 3)), none, none, none, none, none, none, none, none])]) ([.inr (0, 40, [])])) ([.inr (0, 40, [])])) ([.inr (0, 40, [])])) _ E s (up2 (σ) (n + 0) 3 1) τ H _ := hY
  refine lv_aload_n hx hb dX5_init_40 rfl (lv_at hl 0 rfl) ?_
  refine lv_iconst (v := 1) hx hb dX5_init_41 (by decide) ?_
  refine y_putI S hK hA hY hn 0 rfl cl_6 9 (by decide) rfl mw_209 rfl rfl (ty := .boolean) (v := 1) (by decide +kernel) rfl rfl dX5_init_42 (fun H locs hY => ?_)
  have hY : gx_Y tb (@HAppend.hAppend (List gD) (List gD) (List gD) _ (@HAppend.hAppend (List gD) (List gD) (List gD) _ (@HAppend.hAppend (List gD) (List gD) (List gD) _ ([.inl (6, [some (some (n + 1)), some (some (n + 2)), some (some (n + 3)), none, none, none, none, none, none, none, none])]) ([.inr (0, 40, [])])) ([.inr (0, 40, [])])) ([.inr (0, 40, [])])) _ E s (up2 (up2 (σ) (n + 0) 3 1) (n + 0) 9 1) τ H _ := hY
  have hY : gx_Y tb (b_Rule n) _ E s (up2 (up2 (σ) (n + 0) 3 1) (n + 0) 9 1) τ H _ := hY
  exact y_r S hr hlk hY dX5_init_45
def b_Diary (n : Nat) : List gD := @HAppend.hAppend (List gD) (List gD) (List gD) _ (@HAppend.hAppend (List gD) (List gD) (List gD) _ (@HAppend.hAppend (List gD) (List gD) (List gD) _ (@HAppend.hAppend (List gD) (List gD) (List gD) _ ([.inl (3, [some (some (n + 1)), some (some (n + 2)), some (some (n + 3)), some (some (n + 4)), none])]) ([.inr (0, 20, [])])) ([.inr (0, 20, [])])) ([.inr (0, 20, [])])) ([.inr (0, 20, [])])
set_option maxHeartbeats 4000000 in
set_option maxRecDepth 100000 in
theorem k_Diary (l : Launch) {E : gE} (tb : List gD) (n : Nat) (hn : tb.length = n) (σ : gI) (τ : gJ) (h0 : ∀ c k : Nat, n ≤ c → σ c k = 0) (t0 : ∀ c k : Nat, n ≤ c → τ c k = 0) : gx_Mc l yX2_init cX2_init 1 1 4 80 (tb ++ [.inl (3, [some none, some none, some none, some none, none])]) (tb ++ b_Diary n) E σ (σ) τ [.ref (E.2.2 + (n + 0))] := by
  refine y_b (by decide +kernel) (Nat.le_of_ble_eq_true rfl) ?_
  intro P9 e9 s m9 below meth C9 S hr hlk hnm hK hN hA hY ls hl
  have S : CallFix P9 m9 C9 cX2_init 1 s _ gx_G RX2 := S
  have hx := S.1
  have hb := S.2.1
  have hl : lv_has ls 1 [(0, .ref (E.2.2 + (n + 0)))] := hl
  refine lv_aload_n hx hb dX2_init_0 rfl (lv_at hl 0 rfl) ?_
  refine gx_obj S mw_241 mw_121 mw_122 hl.1 dX2_init_1 ⟨Nat.le_of_ble_eq_true rfl, Nat.le_of_ble_eq_true rfl⟩ ?_
  refine lv_aload_n hx hb dX2_init_4 rfl (lv_at hl 0 rfl) ?_
  refine lv_bipush (v := 20) hx hb dX2_init_5 (by decide) ?_
  refine y_newI S hK hY hn 1 rfl (N := 20) (by decide) (by decide) (by decide) (fun c9 k9 h9 => h0 c9 k9 (by omega)) mw_141 ⟨Nat.le_of_ble_eq_true rfl, Nat.le_of_ble_eq_true rfl⟩ dX2_init_7 (fun H hY => ?_)
  refine y_putF S hK hA hY hn 0 rfl cl_3 0 (Nat.le_of_ble_eq_true rfl) (Nat.le_of_ble_eq_true rfl) mw_242 rfl ⟨rfl, hnm, rfl⟩ (ty := .array .int) (j := (n + 1)) (by decide +kernel) rfl rfl dX2_init_9 (fun H locs hY => ?_)
  have hY : gx_Y tb (@HAppend.hAppend (List gD) (List gD) (List gD) _ ([.inl (3, [some (some (n + 1)), some none, some none, some none, none])]) ([.inr (0, 20, [])])) _ E s (σ) τ H _ := hY
  refine lv_aload_n hx hb dX2_init_12 rfl (lv_at hl 0 rfl) ?_
  refine lv_bipush (v := 20) hx hb dX2_init_13 (by decide) ?_
  refine y_newI S hK hY hn 2 rfl (N := 20) (by decide) (by decide) (by decide) (fun c9 k9 h9 => h0 c9 k9 (by omega)) mw_141 ⟨Nat.le_of_ble_eq_true rfl, Nat.le_of_ble_eq_true rfl⟩ dX2_init_15 (fun H hY => ?_)
  refine y_putF S hK hA hY hn 0 rfl cl_3 1 (Nat.le_of_ble_eq_true rfl) (Nat.le_of_ble_eq_true rfl) mw_243 rfl ⟨rfl, hnm, rfl⟩ (ty := .array .int) (j := (n + 2)) (by decide +kernel) rfl rfl dX2_init_17 (fun H locs hY => ?_)
  have hY : gx_Y tb (@HAppend.hAppend (List gD) (List gD) (List gD) _ (@HAppend.hAppend (List gD) (List gD) (List gD) _ ([.inl (3, [some (some (n + 1)), some (some (n + 2)), some none, some none, none])]) ([.inr (0, 20, [])])) ([.inr (0, 20, [])])) _ E s (σ) τ H _ := hY
  refine lv_aload_n hx hb dX2_init_20 rfl (lv_at hl 0 rfl) ?_
  refine lv_bipush (v := 20) hx hb dX2_init_21 (by decide) ?_
  refine y_newI S hK hY hn 3 rfl (N := 20) (by decide) (by decide) (by decide) (fun c9 k9 h9 => h0 c9 k9 (by omega)) mw_141 ⟨Nat.le_of_ble_eq_true rfl, Nat.le_of_ble_eq_true rfl⟩ dX2_init_23 (fun H hY => ?_)
  refine y_putF S hK hA hY hn 0 rfl cl_3 2 (Nat.le_of_ble_eq_true rfl) (Nat.le_of_ble_eq_true rfl) mw_244 rfl ⟨rfl, hnm, rfl⟩ (ty := .array .int) (j := (n + 3)) (by decide +kernel) rfl rfl dX2_init_25 (fun H locs hY => ?_)
  have hY : gx_Y tb (@HAppend.hAppend (List gD) (List gD) (List gD) _ (@HAppend.hAppend (List gD) (List gD) (List gD) _ (@HAppend.hAppend (List gD) (List gD) (List gD) _ ([.inl (3, [some (some (n + 1)), some (some (n + 2)), some (some (n + 3)), some none, none])]) ([.inr (0, 20, [])])) ([.inr (0, 20, [])])) ([.inr (0, 20, [])])) _ E s (σ) τ H _ := hY
  refine lv_aload_n hx hb dX2_init_28 rfl (lv_at hl 0 rfl) ?_
  refine lv_bipush (v := 20) hx hb dX2_init_29 (by decide) ?_
  refine y_newI S hK hY hn 4 rfl (N := 20) (by decide) (by decide) (by decide) (fun c9 k9 h9 => h0 c9 k9 (by omega)) mw_141 ⟨Nat.le_of_ble_eq_true rfl, Nat.le_of_ble_eq_true rfl⟩ dX2_init_31 (fun H hY => ?_)
  refine y_putF S hK hA hY hn 0 rfl cl_3 3 (Nat.le_of_ble_eq_true rfl) (Nat.le_of_ble_eq_true rfl) mw_245 rfl ⟨rfl, hnm, rfl⟩ (ty := .array .int) (j := (n + 4)) (by decide +kernel) rfl rfl dX2_init_33 (fun H locs hY => ?_)
  have hY : gx_Y tb (@HAppend.hAppend (List gD) (List gD) (List gD) _ (@HAppend.hAppend (List gD) (List gD) (List gD) _ (@HAppend.hAppend (List gD) (List gD) (List gD) _ (@HAppend.hAppend (List gD) (List gD) (List gD) _ ([.inl (3, [some (some (n + 1)), some (some (n + 2)), some (some (n + 3)), some (some (n + 4)), none])]) ([.inr (0, 20, [])])) ([.inr (0, 20, [])])) ([.inr (0, 20, [])])) ([.inr (0, 20, [])])) _ E s (σ) τ H _ := hY
  have hY : gx_Y tb (b_Diary n) _ E s (σ) τ H _ := hY
  exact y_r S hr hlk hY dX2_init_36
def b_Scene (n : Nat) : List gD := @HAppend.hAppend (List gD) (List gD) (List gD) _ (@HAppend.hAppend (List gD) (List gD) (List gD) _ (@HAppend.hAppend (List gD) (List gD) (List gD) _ (@HAppend.hAppend (List gD) (List gD) (List gD) _ (@HAppend.hAppend (List gD) (List gD) (List gD) _ (@HAppend.hAppend (List gD) (List gD) (List gD) _ ([.inl (7, [some (some (n + 1)), some (some (n + 2)), some (some (n + 3)), some (some (n + 4)), some (some (n + 5)), some (some (n + 6)), none, none, none, none, none])]) ([.inr (0, 6, [])])) ([.inr (0, 6, [])])) ([.inr (0, 6, [])])) ([.inr (0, 6, [])])) ([.inr (0, 6, [])])) ([.inr (0, 6, [])])
set_option maxHeartbeats 4000000 in
set_option maxRecDepth 100000 in
theorem k_Scene (l : Launch) {E : gE} (tb : List gD) (n : Nat) (hn : tb.length = n) (σ : gI) (τ : gJ) (h0 : ∀ c k : Nat, n ≤ c → σ c k = 0) (t0 : ∀ c k : Nat, n ≤ c → τ c k = 0) : gx_Mc l yX6_init cX6_init 1 1 6 36 (tb ++ [.inl (7, [some none, some none, some none, some none, some none, some none, none, none, none, none, none])]) (tb ++ b_Scene n) E σ (σ) τ [.ref (E.2.2 + (n + 0))] := by
  refine y_b (by decide +kernel) (Nat.le_of_ble_eq_true rfl) ?_
  intro P9 e9 s m9 below meth C9 S hr hlk hnm hK hN hA hY ls hl
  have S : CallFix P9 m9 C9 cX6_init 1 s _ gx_G RX6 := S
  have hx := S.1
  have hb := S.2.1
  have hl : lv_has ls 1 [(0, .ref (E.2.2 + (n + 0)))] := hl
  refine lv_aload_n hx hb dX6_init_0 rfl (lv_at hl 0 rfl) ?_
  refine gx_obj S mw_263 mw_121 mw_122 hl.1 dX6_init_1 ⟨Nat.le_of_ble_eq_true rfl, Nat.le_of_ble_eq_true rfl⟩ ?_
  refine lv_aload_n hx hb dX6_init_4 rfl (lv_at hl 0 rfl) ?_
  refine lv_bipush (v := 6) hx hb dX6_init_5 (by decide) ?_
  refine y_newI S hK hY hn 1 rfl (N := 6) (by decide) (by decide) (by decide) (fun c9 k9 h9 => h0 c9 k9 (by omega)) mw_141 ⟨Nat.le_of_ble_eq_true rfl, Nat.le_of_ble_eq_true rfl⟩ dX6_init_7 (fun H hY => ?_)
  refine y_putF S hK hA hY hn 0 rfl cl_7 0 (Nat.le_of_ble_eq_true rfl) (Nat.le_of_ble_eq_true rfl) mw_264 rfl ⟨rfl, hnm, rfl⟩ (ty := .array .int) (j := (n + 1)) (by decide +kernel) rfl rfl dX6_init_9 (fun H locs hY => ?_)
  have hY : gx_Y tb (@HAppend.hAppend (List gD) (List gD) (List gD) _ ([.inl (7, [some (some (n + 1)), some none, some none, some none, some none, some none, none, none, none, none, none])]) ([.inr (0, 6, [])])) _ E s (σ) τ H _ := hY
  refine lv_aload_n hx hb dX6_init_12 rfl (lv_at hl 0 rfl) ?_
  refine lv_bipush (v := 6) hx hb dX6_init_13 (by decide) ?_
  refine y_newI S hK hY hn 2 rfl (N := 6) (by decide) (by decide) (by decide) (fun c9 k9 h9 => h0 c9 k9 (by omega)) mw_141 ⟨Nat.le_of_ble_eq_true rfl, Nat.le_of_ble_eq_true rfl⟩ dX6_init_15 (fun H hY => ?_)
  refine y_putF S hK hA hY hn 0 rfl cl_7 1 (Nat.le_of_ble_eq_true rfl) (Nat.le_of_ble_eq_true rfl) mw_265 rfl ⟨rfl, hnm, rfl⟩ (ty := .array .int) (j := (n + 2)) (by decide +kernel) rfl rfl dX6_init_17 (fun H locs hY => ?_)
  have hY : gx_Y tb (@HAppend.hAppend (List gD) (List gD) (List gD) _ (@HAppend.hAppend (List gD) (List gD) (List gD) _ ([.inl (7, [some (some (n + 1)), some (some (n + 2)), some none, some none, some none, some none, none, none, none, none, none])]) ([.inr (0, 6, [])])) ([.inr (0, 6, [])])) _ E s (σ) τ H _ := hY
  refine lv_aload_n hx hb dX6_init_20 rfl (lv_at hl 0 rfl) ?_
  refine lv_bipush (v := 6) hx hb dX6_init_21 (by decide) ?_
  refine y_newI S hK hY hn 3 rfl (N := 6) (by decide) (by decide) (by decide) (fun c9 k9 h9 => h0 c9 k9 (by omega)) mw_141 ⟨Nat.le_of_ble_eq_true rfl, Nat.le_of_ble_eq_true rfl⟩ dX6_init_23 (fun H hY => ?_)
  refine y_putF S hK hA hY hn 0 rfl cl_7 2 (Nat.le_of_ble_eq_true rfl) (Nat.le_of_ble_eq_true rfl) mw_266 rfl ⟨rfl, hnm, rfl⟩ (ty := .array .int) (j := (n + 3)) (by decide +kernel) rfl rfl dX6_init_25 (fun H locs hY => ?_)
  have hY : gx_Y tb (@HAppend.hAppend (List gD) (List gD) (List gD) _ (@HAppend.hAppend (List gD) (List gD) (List gD) _ (@HAppend.hAppend (List gD) (List gD) (List gD) _ ([.inl (7, [some (some (n + 1)), some (some (n + 2)), some (some (n + 3)), some none, some none, some none, none, none, none, none, none])]) ([.inr (0, 6, [])])) ([.inr (0, 6, [])])) ([.inr (0, 6, [])])) _ E s (σ) τ H _ := hY
  refine lv_aload_n hx hb dX6_init_28 rfl (lv_at hl 0 rfl) ?_
  refine lv_bipush (v := 6) hx hb dX6_init_29 (by decide) ?_
  refine y_newI S hK hY hn 4 rfl (N := 6) (by decide) (by decide) (by decide) (fun c9 k9 h9 => h0 c9 k9 (by omega)) mw_141 ⟨Nat.le_of_ble_eq_true rfl, Nat.le_of_ble_eq_true rfl⟩ dX6_init_31 (fun H hY => ?_)
  refine y_putF S hK hA hY hn 0 rfl cl_7 3 (Nat.le_of_ble_eq_true rfl) (Nat.le_of_ble_eq_true rfl) mw_267 rfl ⟨rfl, hnm, rfl⟩ (ty := .array .int) (j := (n + 4)) (by decide +kernel) rfl rfl dX6_init_33 (fun H locs hY => ?_)
  have hY : gx_Y tb (@HAppend.hAppend (List gD) (List gD) (List gD) _ (@HAppend.hAppend (List gD) (List gD) (List gD) _ (@HAppend.hAppend (List gD) (List gD) (List gD) _ (@HAppend.hAppend (List gD) (List gD) (List gD) _ ([.inl (7, [some (some (n + 1)), some (some (n + 2)), some (some (n + 3)), some (some (n + 4)), some none, some none, none, none, none, none, none])]) ([.inr (0, 6, [])])) ([.inr (0, 6, [])])) ([.inr (0, 6, [])])) ([.inr (0, 6, [])])) _ E s (σ) τ H _ := hY
  refine lv_aload_n hx hb dX6_init_36 rfl (lv_at hl 0 rfl) ?_
  refine lv_bipush (v := 6) hx hb dX6_init_37 (by decide) ?_
  refine y_newI S hK hY hn 5 rfl (N := 6) (by decide) (by decide) (by decide) (fun c9 k9 h9 => h0 c9 k9 (by omega)) mw_141 ⟨Nat.le_of_ble_eq_true rfl, Nat.le_of_ble_eq_true rfl⟩ dX6_init_39 (fun H hY => ?_)
  refine y_putF S hK hA hY hn 0 rfl cl_7 4 (Nat.le_of_ble_eq_true rfl) (Nat.le_of_ble_eq_true rfl) mw_268 rfl ⟨rfl, hnm, rfl⟩ (ty := .array .int) (j := (n + 5)) (by decide +kernel) rfl rfl dX6_init_41 (fun H locs hY => ?_)
  have hY : gx_Y tb (@HAppend.hAppend (List gD) (List gD) (List gD) _ (@HAppend.hAppend (List gD) (List gD) (List gD) _ (@HAppend.hAppend (List gD) (List gD) (List gD) _ (@HAppend.hAppend (List gD) (List gD) (List gD) _ (@HAppend.hAppend (List gD) (List gD) (List gD) _ ([.inl (7, [some (some (n + 1)), some (some (n + 2)), some (some (n + 3)), some (some (n + 4)), some (some (n + 5)), some none, none, none, none, none, none])]) ([.inr (0, 6, [])])) ([.inr (0, 6, [])])) ([.inr (0, 6, [])])) ([.inr (0, 6, [])])) ([.inr (0, 6, [])])) _ E s (σ) τ H _ := hY
  refine lv_aload_n hx hb dX6_init_44 rfl (lv_at hl 0 rfl) ?_
  refine lv_bipush (v := 6) hx hb dX6_init_45 (by decide) ?_
  refine y_newI S hK hY hn 6 rfl (N := 6) (by decide) (by decide) (by decide) (fun c9 k9 h9 => h0 c9 k9 (by omega)) mw_141 ⟨Nat.le_of_ble_eq_true rfl, Nat.le_of_ble_eq_true rfl⟩ dX6_init_47 (fun H hY => ?_)
  refine y_putF S hK hA hY hn 0 rfl cl_7 5 (Nat.le_of_ble_eq_true rfl) (Nat.le_of_ble_eq_true rfl) mw_269 rfl ⟨rfl, hnm, rfl⟩ (ty := .array .int) (j := (n + 6)) (by decide +kernel) rfl rfl dX6_init_49 (fun H locs hY => ?_)
  have hY : gx_Y tb (@HAppend.hAppend (List gD) (List gD) (List gD) _ (@HAppend.hAppend (List gD) (List gD) (List gD) _ (@HAppend.hAppend (List gD) (List gD) (List gD) _ (@HAppend.hAppend (List gD) (List gD) (List gD) _ (@HAppend.hAppend (List gD) (List gD) (List gD) _ (@HAppend.hAppend (List gD) (List gD) (List gD) _ ([.inl (7, [some (some (n + 1)), some (some (n + 2)), some (some (n + 3)), some (some (n + 4)), some (some (n + 5)), some (some (n + 6)), none, none, none, none, none])]) ([.inr (0, 6, [])])) ([.inr (0, 6, [])])) ([.inr (0, 6, [])])) ([.inr (0, 6, [])])) ([.inr (0, 6, [])])) ([.inr (0, 6, [])])) _ E s (σ) τ H _ := hY
  have hY : gx_Y tb (b_Scene n) _ E s (σ) τ H _ := hY
  exact y_r S hr hlk hY dX6_init_52
def b_Corks (n : Nat) : List gD := @HAppend.hAppend (List gD) (List gD) (List gD) _ (@HAppend.hAppend (List gD) (List gD) (List gD) _ (@HAppend.hAppend (List gD) (List gD) (List gD) _ ([.inl (1, [some (some (n + 1)), some (some (n + 2)), some (some (n + 3)), none])]) ([.inr (0, 10, [])])) ([.inr (0, 10, [])])) ([.inr (0, 10, [])])
set_option maxHeartbeats 4000000 in
set_option maxRecDepth 100000 in
theorem k_Corks (l : Launch) {E : gE} (tb : List gD) (n : Nat) (hn : tb.length = n) (σ : gI) (τ : gJ) (h0 : ∀ c k : Nat, n ≤ c → σ c k = 0) (t0 : ∀ c k : Nat, n ≤ c → τ c k = 0) : gx_Mc l yX0_init cX0_init 1 1 3 30 (tb ++ [.inl (1, [some none, some none, some none, none])]) (tb ++ b_Corks n) E σ (σ) τ [.ref (E.2.2 + (n + 0))] := by
  refine y_b (by decide +kernel) (Nat.le_of_ble_eq_true rfl) ?_
  intro P9 e9 s m9 below meth C9 S hr hlk hnm hK hN hA hY ls hl
  have S : CallFix P9 m9 C9 cX0_init 1 s _ gx_G RX0 := S
  have hx := S.1
  have hb := S.2.1
  have hl : lv_has ls 1 [(0, .ref (E.2.2 + (n + 0)))] := hl
  refine lv_aload_n hx hb dX0_init_0 rfl (lv_at hl 0 rfl) ?_
  refine gx_obj S mw_335 mw_121 mw_122 hl.1 dX0_init_1 ⟨Nat.le_of_ble_eq_true rfl, Nat.le_of_ble_eq_true rfl⟩ ?_
  refine lv_aload_n hx hb dX0_init_4 rfl (lv_at hl 0 rfl) ?_
  refine lv_bipush (v := 10) hx hb dX0_init_5 (by decide) ?_
  refine y_newI S hK hY hn 1 rfl (N := 10) (by decide) (by decide) (by decide) (fun c9 k9 h9 => h0 c9 k9 (by omega)) mw_141 ⟨Nat.le_of_ble_eq_true rfl, Nat.le_of_ble_eq_true rfl⟩ dX0_init_7 (fun H hY => ?_)
  refine y_putF S hK hA hY hn 0 rfl cl_1 0 (Nat.le_of_ble_eq_true rfl) (Nat.le_of_ble_eq_true rfl) mw_336 rfl ⟨rfl, hnm, rfl⟩ (ty := .array .int) (j := (n + 1)) (by decide +kernel) rfl rfl dX0_init_9 (fun H locs hY => ?_)
  have hY : gx_Y tb (@HAppend.hAppend (List gD) (List gD) (List gD) _ ([.inl (1, [some (some (n + 1)), some none, some none, none])]) ([.inr (0, 10, [])])) _ E s (σ) τ H _ := hY
  refine lv_aload_n hx hb dX0_init_12 rfl (lv_at hl 0 rfl) ?_
  refine lv_bipush (v := 10) hx hb dX0_init_13 (by decide) ?_
  refine y_newI S hK hY hn 2 rfl (N := 10) (by decide) (by decide) (by decide) (fun c9 k9 h9 => h0 c9 k9 (by omega)) mw_141 ⟨Nat.le_of_ble_eq_true rfl, Nat.le_of_ble_eq_true rfl⟩ dX0_init_15 (fun H hY => ?_)
  refine y_putF S hK hA hY hn 0 rfl cl_1 1 (Nat.le_of_ble_eq_true rfl) (Nat.le_of_ble_eq_true rfl) mw_337 rfl ⟨rfl, hnm, rfl⟩ (ty := .array .int) (j := (n + 2)) (by decide +kernel) rfl rfl dX0_init_17 (fun H locs hY => ?_)
  have hY : gx_Y tb (@HAppend.hAppend (List gD) (List gD) (List gD) _ (@HAppend.hAppend (List gD) (List gD) (List gD) _ ([.inl (1, [some (some (n + 1)), some (some (n + 2)), some none, none])]) ([.inr (0, 10, [])])) ([.inr (0, 10, [])])) _ E s (σ) τ H _ := hY
  refine lv_aload_n hx hb dX0_init_20 rfl (lv_at hl 0 rfl) ?_
  refine lv_bipush (v := 10) hx hb dX0_init_21 (by decide) ?_
  refine y_newI S hK hY hn 3 rfl (N := 10) (by decide) (by decide) (by decide) (fun c9 k9 h9 => h0 c9 k9 (by omega)) mw_141 ⟨Nat.le_of_ble_eq_true rfl, Nat.le_of_ble_eq_true rfl⟩ dX0_init_23 (fun H hY => ?_)
  refine y_putF S hK hA hY hn 0 rfl cl_1 2 (Nat.le_of_ble_eq_true rfl) (Nat.le_of_ble_eq_true rfl) mw_338 rfl ⟨rfl, hnm, rfl⟩ (ty := .array .int) (j := (n + 3)) (by decide +kernel) rfl rfl dX0_init_25 (fun H locs hY => ?_)
  have hY : gx_Y tb (@HAppend.hAppend (List gD) (List gD) (List gD) _ (@HAppend.hAppend (List gD) (List gD) (List gD) _ (@HAppend.hAppend (List gD) (List gD) (List gD) _ ([.inl (1, [some (some (n + 1)), some (some (n + 2)), some (some (n + 3)), none])]) ([.inr (0, 10, [])])) ([.inr (0, 10, [])])) ([.inr (0, 10, [])])) _ E s (σ) τ H _ := hY
  have hY : gx_Y tb (b_Corks n) _ E s (σ) τ H _ := hY
  exact y_r S hr hlk hY dX0_init_28
def b_Row (n : Nat) : List gD := @HAppend.hAppend (List gD) (List gD) (List gD) _ ([.inl (5, [some (some (n + 1)), none])]) ([.inr (1, 3, [])])
set_option maxHeartbeats 4000000 in
set_option maxRecDepth 100000 in
theorem k_Row (l : Launch) {E : gE} (tb : List gD) (n : Nat) (hn : tb.length = n) (σ : gI) (τ : gJ) (h0 : ∀ c k : Nat, n ≤ c → σ c k = 0) (t0 : ∀ c k : Nat, n ≤ c → τ c k = 0) : gx_Mc l yX4_init cX4_init 1 1 1 3 (tb ++ [.inl (5, [some none, none])]) (tb ++ b_Row n) E σ (σ) τ [.ref (E.2.2 + (n + 0))] := by
  refine y_b (by decide +kernel) (Nat.le_of_ble_eq_true rfl) ?_
  intro P9 e9 s m9 below meth C9 S hr hlk hnm hK hN hA hY ls hl
  have S : CallFix P9 m9 C9 cX4_init 1 s _ gx_G RX4 := S
  have hx := S.1
  have hb := S.2.1
  have hl : lv_has ls 1 [(0, .ref (E.2.2 + (n + 0)))] := hl
  refine lv_aload_n hx hb dX4_init_0 rfl (lv_at hl 0 rfl) ?_
  refine gx_obj S mw_355 mw_121 mw_122 hl.1 dX4_init_1 ⟨Nat.le_of_ble_eq_true rfl, Nat.le_of_ble_eq_true rfl⟩ ?_
  refine lv_aload_n hx hb dX4_init_4 rfl (lv_at hl 0 rfl) ?_
  refine lv_iconst (v := 3) hx hb dX4_init_5 (by decide) ?_
  refine y_newJ S hK hY hn 1 rfl (N := 3) (by decide) (by decide) (by decide) (fun c9 k9 h9 => t0 c9 k9 (by omega)) mw_364 ⟨Nat.le_of_ble_eq_true rfl, Nat.le_of_ble_eq_true rfl⟩ dX4_init_6 (fun H hY => ?_)
  refine y_putF S hK hA hY hn 0 rfl cl_5 0 (Nat.le_of_ble_eq_true rfl) (Nat.le_of_ble_eq_true rfl) mw_356 rfl ⟨rfl, hnm, rfl⟩ (ty := .array .long) (j := (n + 1)) (by decide +kernel) rfl rfl dX4_init_8 (fun H locs hY => ?_)
  have hY : gx_Y tb (@HAppend.hAppend (List gD) (List gD) (List gD) _ ([.inl (5, [some (some (n + 1)), none])]) ([.inr (1, 3, [])])) _ E s (σ) τ H _ := hY
  have hY : gx_Y tb (b_Row n) _ E s (σ) τ H _ := hY
  exact y_r S hr hlk hY dX4_init_11
def b_Current (n : Nat) (a1 : Nat) (a2 : Nat) (a3 : Nat) : List gD := @HAppend.hAppend (List gD) (List gD) (List gD) _ ([.inl (2, [some (some a1), some (some a2), some (some a3), some (some (n + 1)), none, none, none, none, none, none])]) ([.inr (0, 8, [])])
set_option maxHeartbeats 4000000 in
set_option maxRecDepth 100000 in
theorem k_Current (l : Launch) {E : gE} (tb : List gD) (n : Nat) (hn : tb.length = n) (σ : gI) (τ : gJ) (a1 : Nat) (a2 : Nat) (a3 : Nat) (h0 : ∀ c k : Nat, n ≤ c → σ c k = 0) (t0 : ∀ c k : Nat, n ≤ c → τ c k = 0) : gx_Mc l yX1_init cX1_init 4 1 1 8 (tb ++ [.inl (2, [some none, some none, some none, some none, none, none, none, none, none, none])]) (tb ++ b_Current n a1 a2 a3) E σ (σ) τ [.ref (E.2.2 + (n + 0)), .ref (E.2.2 + a1), .ref (E.2.2 + a2), .ref (E.2.2 + a3)] := by
  refine y_b (by decide +kernel) (Nat.le_of_ble_eq_true rfl) ?_
  intro P9 e9 s m9 below meth C9 S hr hlk hnm hK hN hA hY ls hl
  have S : CallFix P9 m9 C9 cX1_init 4 s _ gx_G RX1 := S
  have hx := S.1
  have hb := S.2.1
  have hl : lv_has ls 4 [(0, .ref (E.2.2 + (n + 0))), (1, .ref (E.2.2 + a1)), (2, .ref (E.2.2 + a2)), (3, .ref (E.2.2 + a3))] := hl
  refine lv_aload_n hx hb dX1_init_0 rfl (lv_at hl 0 rfl) ?_
  refine gx_obj S mw_370 mw_121 mw_122 hl.1 dX1_init_1 ⟨Nat.le_of_ble_eq_true rfl, Nat.le_of_ble_eq_true rfl⟩ ?_
  refine lv_aload_n hx hb dX1_init_4 rfl (lv_at hl 0 rfl) ?_
  refine lv_bipush (v := 8) hx hb dX1_init_5 (by decide) ?_
  refine y_newI S hK hY hn 1 rfl (N := 8) (by decide) (by decide) (by decide) (fun c9 k9 h9 => h0 c9 k9 (by omega)) mw_141 ⟨Nat.le_of_ble_eq_true rfl, Nat.le_of_ble_eq_true rfl⟩ dX1_init_7 (fun H hY => ?_)
  refine y_putF S hK hA hY hn 0 rfl cl_2 3 (Nat.le_of_ble_eq_true rfl) (Nat.le_of_ble_eq_true rfl) mw_374 rfl ⟨rfl, hnm, rfl⟩ (ty := .array .int) (j := (n + 1)) (by decide +kernel) rfl rfl dX1_init_9 (fun H locs hY => ?_)
  have hY : gx_Y tb (@HAppend.hAppend (List gD) (List gD) (List gD) _ ([.inl (2, [some none, some none, some none, some (some (n + 1)), none, none, none, none, none, none])]) ([.inr (0, 8, [])])) _ E s (σ) τ H _ := hY
  refine lv_aload_n hx hb dX1_init_12 rfl (lv_at hl 0 rfl) ?_
  refine lv_aload_n hx hb dX1_init_13 rfl (lv_at hl 1 rfl) ?_
  refine y_putF S hK hA hY hn 0 rfl cl_2 0 (Nat.le_of_ble_eq_true rfl) (Nat.le_of_ble_eq_true rfl) mw_371 rfl ⟨rfl, hnm, rfl⟩ (ty := .object "DownTheGutter$Town") (j := a1) (by decide +kernel) rfl rfl dX1_init_14 (fun H locs hY => ?_)
  have hY : gx_Y tb (@HAppend.hAppend (List gD) (List gD) (List gD) _ ([.inl (2, [some (some a1), some none, some none, some (some (n + 1)), none, none, none, none, none, none])]) ([.inr (0, 8, [])])) _ E s (σ) τ H _ := hY
  refine lv_aload_n hx hb dX1_init_17 rfl (lv_at hl 0 rfl) ?_
  refine lv_aload_n hx hb dX1_init_18 rfl (lv_at hl 2 rfl) ?_
  refine y_putF S hK hA hY hn 0 rfl cl_2 1 (Nat.le_of_ble_eq_true rfl) (Nat.le_of_ble_eq_true rfl) mw_372 rfl ⟨rfl, hnm, rfl⟩ (ty := .object "DownTheGutter$Water") (j := a2) (by decide +kernel) rfl rfl dX1_init_19 (fun H locs hY => ?_)
  have hY : gx_Y tb (@HAppend.hAppend (List gD) (List gD) (List gD) _ ([.inl (2, [some (some a1), some (some a2), some none, some (some (n + 1)), none, none, none, none, none, none])]) ([.inr (0, 8, [])])) _ E s (σ) τ H _ := hY
  refine lv_aload_n hx hb dX1_init_22 rfl (lv_at hl 0 rfl) ?_
  refine lv_aload_n hx hb dX1_init_23 rfl (lv_at hl 3 rfl) ?_
  refine y_putF S hK hA hY hn 0 rfl cl_2 2 (Nat.le_of_ble_eq_true rfl) (Nat.le_of_ble_eq_true rfl) mw_373 rfl ⟨rfl, hnm, rfl⟩ (ty := .object "DownTheGutter$Rule") (j := a3) (by decide +kernel) rfl rfl dX1_init_24 (fun H locs hY => ?_)
  have hY : gx_Y tb (@HAppend.hAppend (List gD) (List gD) (List gD) _ ([.inl (2, [some (some a1), some (some a2), some (some a3), some (some (n + 1)), none, none, none, none, none, none])]) ([.inr (0, 8, [])])) _ E s (σ) τ H _ := hY
  have hY : gx_Y tb (b_Current n a1 a2 a3) _ E s (σ) τ H _ := hY
  exact y_r S hr hlk hY dX1_init_27
def b_Past (n : Nat) : List gD := (.inl (4, [some (some (n + 1)), none, none])) :: (.inr (3, 15, [some (n + 2), some (n + 9), some (n + 16), some (n + 23), some (n + 30), some (n + 37), some (n + 44), some (n + 51), some (n + 58), some (n + 65), some (n + 72), some (n + 79), some (n + 86), some (n + 93), some (n + 100)])) :: (@HAppend.hAppend (List gD) (List gD) (List gD) _ (b_Scene (n + 2)) (@HAppend.hAppend (List gD) (List gD) (List gD) _ (b_Scene (n + 9)) (@HAppend.hAppend (List gD) (List gD) (List gD) _ (b_Scene (n + 16)) (@HAppend.hAppend (List gD) (List gD) (List gD) _ (b_Scene (n + 23)) (@HAppend.hAppend (List gD) (List gD) (List gD) _ (b_Scene (n + 30)) (@HAppend.hAppend (List gD) (List gD) (List gD) _ (b_Scene (n + 37)) (@HAppend.hAppend (List gD) (List gD) (List gD) _ (b_Scene (n + 44)) (@HAppend.hAppend (List gD) (List gD) (List gD) _ (b_Scene (n + 51)) (@HAppend.hAppend (List gD) (List gD) (List gD) _ (b_Scene (n + 58)) (@HAppend.hAppend (List gD) (List gD) (List gD) _ (b_Scene (n + 65)) (@HAppend.hAppend (List gD) (List gD) (List gD) _ (b_Scene (n + 72)) (@HAppend.hAppend (List gD) (List gD) (List gD) _ (b_Scene (n + 79)) (@HAppend.hAppend (List gD) (List gD) (List gD) _ (b_Scene (n + 86)) (@HAppend.hAppend (List gD) (List gD) (List gD) _ (b_Scene (n + 93)) (b_Scene (n + 100))))))))))))))))
set_option maxHeartbeats 4000000 in
set_option maxRecDepth 100000 in
theorem k_Past (l : Launch) {E : gE} (tb : List gD) (n : Nat) (hn : tb.length = n) (σ : gI) (τ : gJ) (h0 : ∀ c k : Nat, n ≤ c → σ c k = 0) (t0 : ∀ c k : Nat, n ≤ c → τ c k = 0) : gx_Mc l yX3_init cX3_init 2 2 106 720 (tb ++ [.inl (4, [some none, none, none])]) (tb ++ b_Past n) E σ (σ) τ [.ref (E.2.2 + (n + 0))] := by
  refine y_b (by decide +kernel) (Nat.le_of_ble_eq_true rfl) ?_
  intro P9 e9 s m9 below meth C9 S hr hlk hnm hK hN hA hY ls hl
  have S : CallFix P9 m9 C9 cX3_init 2 s _ gx_G RX3 := S
  have hx := S.1
  have hb := S.2.1
  have hl : lv_has ls 2 [(0, .ref (E.2.2 + (n + 0)))] := hl
  refine lv_aload_n hx hb dX3_init_0 rfl (lv_at hl 0 rfl) ?_
  refine gx_obj S mw_315 mw_121 mw_122 hl.1 dX3_init_1 ⟨Nat.le_of_ble_eq_true rfl, Nat.le_of_ble_eq_true rfl⟩ ?_
  refine lv_aload_n hx hb dX3_init_4 rfl (lv_at hl 0 rfl) ?_
  refine lv_bipush (v := 15) hx hb dX3_init_5 (by decide) ?_
  refine y_newS S hK hN hY hn 1 rfl (N := 15) (by decide) (by decide) (by decide) mw_316 ⟨Nat.le_of_ble_eq_true rfl, Nat.le_of_ble_eq_true rfl⟩ dX3_init_7 (fun H hY => ?_)
  have hY : gx_Y tb (@HAppend.hAppend (List gD) (List gD) (List gD) _ ([.inl (4, [some none, none, none])]) ([.inr (3, 15, [none, none, none, none, none, none, none, none, none, none, none, none, none, none, none])])) _ E s (σ) τ H _ := hY
  refine y_putF S hK hA hY hn 0 rfl cl_4 0 (Nat.le_of_ble_eq_true rfl) (Nat.le_of_ble_eq_true rfl) mw_319 rfl ⟨rfl, hnm, rfl⟩ (ty := .array (.object "DownTheGutter$Scene")) (j := (n + 1)) (by decide +kernel) rfl rfl dX3_init_10 (fun H locs hY => ?_)
  have hY : gx_Y tb (@HAppend.hAppend (List gD) (List gD) (List gD) _ ([.inl (4, [some (some (n + 1)), none, none])]) ([.inr (3, 15, [none, none, none, none, none, none, none, none, none, none, none, none, none, none, none])])) _ E s (σ) τ H _ := hY
  obtain ⟨M_0, e_0, l_0, hY⟩ := y_beg2 (.inl (4, [some (some (n + 1)), none, none])) (.inr (3, 15, [none, none, none, none, none, none, none, none, none, none, none, none, none, none, none])) hY
  refine lv_iconst (v := 0) hx hb dX3_init_13 (by decide) ?_
  refine lv_istore_n (lv' := [(1, .int 0), (0, .ref (E.2.2 + (n + 0)))]) hx hb dX3_init_14 rfl hl (by decide) rfl (fun ls hl => ?_)
  refine lv_iload_n hx hb dX3_init_15 rfl (lv_at hl 0 rfl) ?_
  refine lv_bipush (v := 15) hx hb dX3_init_16 (by decide) ?_
  refine lv_icmp_ge (tgt := 40) hx hb dX3_init_18 (by decide) (fun h => absurd h (by decide)) (fun _ => ?_)
  refine lv_aload_n hx hb dX3_init_21 rfl (lv_at hl 1 rfl) ?_
  refine y_getr (j := (n + 1)) S hK hY hn 0 rfl cl_4 0 (by decide) rfl mw_319 rfl dX3_init_22 ?_
  refine lv_iload_n hx hb dX3_init_25 rfl (lv_at hl 0 rfl) ?_
  refine y_new S hK hY hn 2 (y_l2 l_0) cl_7 tyX6 tyX6_ok [some none, some none, some none, some none, some none, some none, none, none, none, none, none] (fun j hj => by rcases (show j = 0 ∨ j = 1 ∨ j = 2 ∨ j = 3 ∨ j = 4 ∨ j = 5 ∨ j = 6 ∨ j = 7 ∨ j = 8 ∨ j = 9 ∨ j = 10 by omega) with rfl | rfl | rfl | rfl | rfl | rfl | rfl | rfl | rfl | rfl | rfl <;> rfl) (fun c9 k9 h9 => h0 c9 k9 (by omega)) mwc_X3_9 mw_259 mw_95 ⟨Nat.le_of_ble_eq_true rfl, Nat.le_of_ble_eq_true rfl⟩ dX3_init_26 (fun H hY => ?_)
  refine lv_dup hx hb dX3_init_29 rfl ?_
  refine y_cN (K := 2) (As := []) (rest := [.ref (E.2.2 + (n + 2)), .int 0, .ref (E.2.2 + (n + 1))]) S hK hN hA hY hn (y_l2 l_0) (k_Scene l (E := E) _ (n + 2) (y_ln hn (y_l2 l_0)) (σ) τ  (fun c9 k9 h9 => h0 c9 k9 (by omega)) (fun c9 k9 h9 => t0 c9 k9 (by omega))) cw_X3_15 ⟨Nat.le_of_ble_eq_true rfl, Nat.le_of_ble_eq_true rfl⟩ rfl hl.1 rfl (Nat.le_of_ble_eq_true rfl) ⟨Nat.le_of_ble_eq_true rfl, Nat.le_of_ble_eq_true rfl⟩ dX3_init_30 (fun H locs hY => ?_)
  refine y_aast S hK hA hY hn 1 2 rfl (y_at (y_l2 l_0) rfl) 0 rfl (gx_in rfl (by decide) (by decide)) (Nat.le_of_ble_eq_true rfl) dX3_init_33 (fun H locs hY => ?_)
  have hY : gx_Y tb ((.inl (4, [some (some (n + 1)), none, none])) :: (.inr (3, 15, [some (n + 2), none, none, none, none, none, none, none, none, none, none, none, none, none, none])) :: (M_0 ++ (b_Scene (n + 2)))) _ E s (σ) τ H _ := hY
  obtain ⟨M_1, e_1, l_1, hY⟩ := y_abs2 l_0 (j := 7) rfl hY
  have l_1 : M_1.length = 7 := l_1
  refine lv_iinc (v := 1) (lv' := [(1, .int 1), (0, .ref (E.2.2 + (n + 0)))]) hx hb dX3_init_34 hl (k := 0) rfl (by decide) (by decide) rfl (fun ls hl => ?_)
  refine lv_goto (tgt := 15) hx hb dX3_init_37 (by decide) ?_
  refine lv_iload_n hx hb dX3_init_15 rfl (lv_at hl 0 rfl) ?_
  refine lv_bipush (v := 15) hx hb dX3_init_16 (by decide) ?_
  refine lv_icmp_ge (tgt := 40) hx hb dX3_init_18 (by decide) (fun h => absurd h (by decide)) (fun _ => ?_)
  refine lv_aload_n hx hb dX3_init_21 rfl (lv_at hl 1 rfl) ?_
  refine y_getr (j := (n + 1)) S hK hY hn 0 rfl cl_4 0 (by decide) rfl mw_319 rfl dX3_init_22 ?_
  refine lv_iload_n hx hb dX3_init_25 rfl (lv_at hl 0 rfl) ?_
  refine y_new S hK hY hn 9 (y_l2 l_1) cl_7 tyX6 tyX6_ok [some none, some none, some none, some none, some none, some none, none, none, none, none, none] (fun j hj => by rcases (show j = 0 ∨ j = 1 ∨ j = 2 ∨ j = 3 ∨ j = 4 ∨ j = 5 ∨ j = 6 ∨ j = 7 ∨ j = 8 ∨ j = 9 ∨ j = 10 by omega) with rfl | rfl | rfl | rfl | rfl | rfl | rfl | rfl | rfl | rfl | rfl <;> rfl) (fun c9 k9 h9 => h0 c9 k9 (by omega)) mwc_X3_9 mw_259 mw_95 ⟨Nat.le_of_ble_eq_true rfl, Nat.le_of_ble_eq_true rfl⟩ dX3_init_26 (fun H hY => ?_)
  refine lv_dup hx hb dX3_init_29 rfl ?_
  refine y_cN (K := 9) (As := []) (rest := [.ref (E.2.2 + (n + 9)), .int 1, .ref (E.2.2 + (n + 1))]) S hK hN hA hY hn (y_l2 l_1) (k_Scene l (E := E) _ (n + 9) (y_ln hn (y_l2 l_1)) (σ) τ  (fun c9 k9 h9 => h0 c9 k9 (by omega)) (fun c9 k9 h9 => t0 c9 k9 (by omega))) cw_X3_15 ⟨Nat.le_of_ble_eq_true rfl, Nat.le_of_ble_eq_true rfl⟩ rfl hl.1 rfl (Nat.le_of_ble_eq_true rfl) ⟨Nat.le_of_ble_eq_true rfl, Nat.le_of_ble_eq_true rfl⟩ dX3_init_30 (fun H locs hY => ?_)
  refine y_aast S hK hA hY hn 1 9 rfl (y_at (y_l2 l_1) rfl) 1 rfl (gx_in rfl (by decide) (by decide)) (Nat.le_of_ble_eq_true rfl) dX3_init_33 (fun H locs hY => ?_)
  have hY : gx_Y tb ((.inl (4, [some (some (n + 1)), none, none])) :: (.inr (3, 15, [some (n + 2), some (n + 9), none, none, none, none, none, none, none, none, none, none, none, none, none])) :: (M_1 ++ (b_Scene (n + 9)))) _ E s (σ) τ H _ := hY
  obtain ⟨M_2, e_2, l_2, hY⟩ := y_abs2 l_1 (j := 7) rfl hY
  have l_2 : M_2.length = 14 := l_2
  refine lv_iinc (v := 2) (lv' := [(1, .int 2), (0, .ref (E.2.2 + (n + 0)))]) hx hb dX3_init_34 hl (k := 0) rfl (by decide) (by decide) rfl (fun ls hl => ?_)
  refine lv_goto (tgt := 15) hx hb dX3_init_37 (by decide) ?_
  refine lv_iload_n hx hb dX3_init_15 rfl (lv_at hl 0 rfl) ?_
  refine lv_bipush (v := 15) hx hb dX3_init_16 (by decide) ?_
  refine lv_icmp_ge (tgt := 40) hx hb dX3_init_18 (by decide) (fun h => absurd h (by decide)) (fun _ => ?_)
  refine lv_aload_n hx hb dX3_init_21 rfl (lv_at hl 1 rfl) ?_
  refine y_getr (j := (n + 1)) S hK hY hn 0 rfl cl_4 0 (by decide) rfl mw_319 rfl dX3_init_22 ?_
  refine lv_iload_n hx hb dX3_init_25 rfl (lv_at hl 0 rfl) ?_
  refine y_new S hK hY hn 16 (y_l2 l_2) cl_7 tyX6 tyX6_ok [some none, some none, some none, some none, some none, some none, none, none, none, none, none] (fun j hj => by rcases (show j = 0 ∨ j = 1 ∨ j = 2 ∨ j = 3 ∨ j = 4 ∨ j = 5 ∨ j = 6 ∨ j = 7 ∨ j = 8 ∨ j = 9 ∨ j = 10 by omega) with rfl | rfl | rfl | rfl | rfl | rfl | rfl | rfl | rfl | rfl | rfl <;> rfl) (fun c9 k9 h9 => h0 c9 k9 (by omega)) mwc_X3_9 mw_259 mw_95 ⟨Nat.le_of_ble_eq_true rfl, Nat.le_of_ble_eq_true rfl⟩ dX3_init_26 (fun H hY => ?_)
  refine lv_dup hx hb dX3_init_29 rfl ?_
  refine y_cN (K := 16) (As := []) (rest := [.ref (E.2.2 + (n + 16)), .int 2, .ref (E.2.2 + (n + 1))]) S hK hN hA hY hn (y_l2 l_2) (k_Scene l (E := E) _ (n + 16) (y_ln hn (y_l2 l_2)) (σ) τ  (fun c9 k9 h9 => h0 c9 k9 (by omega)) (fun c9 k9 h9 => t0 c9 k9 (by omega))) cw_X3_15 ⟨Nat.le_of_ble_eq_true rfl, Nat.le_of_ble_eq_true rfl⟩ rfl hl.1 rfl (Nat.le_of_ble_eq_true rfl) ⟨Nat.le_of_ble_eq_true rfl, Nat.le_of_ble_eq_true rfl⟩ dX3_init_30 (fun H locs hY => ?_)
  refine y_aast S hK hA hY hn 1 16 rfl (y_at (y_l2 l_2) rfl) 2 rfl (gx_in rfl (by decide) (by decide)) (Nat.le_of_ble_eq_true rfl) dX3_init_33 (fun H locs hY => ?_)
  have hY : gx_Y tb ((.inl (4, [some (some (n + 1)), none, none])) :: (.inr (3, 15, [some (n + 2), some (n + 9), some (n + 16), none, none, none, none, none, none, none, none, none, none, none, none])) :: (M_2 ++ (b_Scene (n + 16)))) _ E s (σ) τ H _ := hY
  obtain ⟨M_3, e_3, l_3, hY⟩ := y_abs2 l_2 (j := 7) rfl hY
  have l_3 : M_3.length = 21 := l_3
  refine lv_iinc (v := 3) (lv' := [(1, .int 3), (0, .ref (E.2.2 + (n + 0)))]) hx hb dX3_init_34 hl (k := 0) rfl (by decide) (by decide) rfl (fun ls hl => ?_)
  refine lv_goto (tgt := 15) hx hb dX3_init_37 (by decide) ?_
  refine lv_iload_n hx hb dX3_init_15 rfl (lv_at hl 0 rfl) ?_
  refine lv_bipush (v := 15) hx hb dX3_init_16 (by decide) ?_
  refine lv_icmp_ge (tgt := 40) hx hb dX3_init_18 (by decide) (fun h => absurd h (by decide)) (fun _ => ?_)
  refine lv_aload_n hx hb dX3_init_21 rfl (lv_at hl 1 rfl) ?_
  refine y_getr (j := (n + 1)) S hK hY hn 0 rfl cl_4 0 (by decide) rfl mw_319 rfl dX3_init_22 ?_
  refine lv_iload_n hx hb dX3_init_25 rfl (lv_at hl 0 rfl) ?_
  refine y_new S hK hY hn 23 (y_l2 l_3) cl_7 tyX6 tyX6_ok [some none, some none, some none, some none, some none, some none, none, none, none, none, none] (fun j hj => by rcases (show j = 0 ∨ j = 1 ∨ j = 2 ∨ j = 3 ∨ j = 4 ∨ j = 5 ∨ j = 6 ∨ j = 7 ∨ j = 8 ∨ j = 9 ∨ j = 10 by omega) with rfl | rfl | rfl | rfl | rfl | rfl | rfl | rfl | rfl | rfl | rfl <;> rfl) (fun c9 k9 h9 => h0 c9 k9 (by omega)) mwc_X3_9 mw_259 mw_95 ⟨Nat.le_of_ble_eq_true rfl, Nat.le_of_ble_eq_true rfl⟩ dX3_init_26 (fun H hY => ?_)
  refine lv_dup hx hb dX3_init_29 rfl ?_
  refine y_cN (K := 23) (As := []) (rest := [.ref (E.2.2 + (n + 23)), .int 3, .ref (E.2.2 + (n + 1))]) S hK hN hA hY hn (y_l2 l_3) (k_Scene l (E := E) _ (n + 23) (y_ln hn (y_l2 l_3)) (σ) τ  (fun c9 k9 h9 => h0 c9 k9 (by omega)) (fun c9 k9 h9 => t0 c9 k9 (by omega))) cw_X3_15 ⟨Nat.le_of_ble_eq_true rfl, Nat.le_of_ble_eq_true rfl⟩ rfl hl.1 rfl (Nat.le_of_ble_eq_true rfl) ⟨Nat.le_of_ble_eq_true rfl, Nat.le_of_ble_eq_true rfl⟩ dX3_init_30 (fun H locs hY => ?_)
  refine y_aast S hK hA hY hn 1 23 rfl (y_at (y_l2 l_3) rfl) 3 rfl (gx_in rfl (by decide) (by decide)) (Nat.le_of_ble_eq_true rfl) dX3_init_33 (fun H locs hY => ?_)
  have hY : gx_Y tb ((.inl (4, [some (some (n + 1)), none, none])) :: (.inr (3, 15, [some (n + 2), some (n + 9), some (n + 16), some (n + 23), none, none, none, none, none, none, none, none, none, none, none])) :: (M_3 ++ (b_Scene (n + 23)))) _ E s (σ) τ H _ := hY
  obtain ⟨M_4, e_4, l_4, hY⟩ := y_abs2 l_3 (j := 7) rfl hY
  have l_4 : M_4.length = 28 := l_4
  refine lv_iinc (v := 4) (lv' := [(1, .int 4), (0, .ref (E.2.2 + (n + 0)))]) hx hb dX3_init_34 hl (k := 0) rfl (by decide) (by decide) rfl (fun ls hl => ?_)
  refine lv_goto (tgt := 15) hx hb dX3_init_37 (by decide) ?_
  refine lv_iload_n hx hb dX3_init_15 rfl (lv_at hl 0 rfl) ?_
  refine lv_bipush (v := 15) hx hb dX3_init_16 (by decide) ?_
  refine lv_icmp_ge (tgt := 40) hx hb dX3_init_18 (by decide) (fun h => absurd h (by decide)) (fun _ => ?_)
  refine lv_aload_n hx hb dX3_init_21 rfl (lv_at hl 1 rfl) ?_
  refine y_getr (j := (n + 1)) S hK hY hn 0 rfl cl_4 0 (by decide) rfl mw_319 rfl dX3_init_22 ?_
  refine lv_iload_n hx hb dX3_init_25 rfl (lv_at hl 0 rfl) ?_
  refine y_new S hK hY hn 30 (y_l2 l_4) cl_7 tyX6 tyX6_ok [some none, some none, some none, some none, some none, some none, none, none, none, none, none] (fun j hj => by rcases (show j = 0 ∨ j = 1 ∨ j = 2 ∨ j = 3 ∨ j = 4 ∨ j = 5 ∨ j = 6 ∨ j = 7 ∨ j = 8 ∨ j = 9 ∨ j = 10 by omega) with rfl | rfl | rfl | rfl | rfl | rfl | rfl | rfl | rfl | rfl | rfl <;> rfl) (fun c9 k9 h9 => h0 c9 k9 (by omega)) mwc_X3_9 mw_259 mw_95 ⟨Nat.le_of_ble_eq_true rfl, Nat.le_of_ble_eq_true rfl⟩ dX3_init_26 (fun H hY => ?_)
  refine lv_dup hx hb dX3_init_29 rfl ?_
  refine y_cN (K := 30) (As := []) (rest := [.ref (E.2.2 + (n + 30)), .int 4, .ref (E.2.2 + (n + 1))]) S hK hN hA hY hn (y_l2 l_4) (k_Scene l (E := E) _ (n + 30) (y_ln hn (y_l2 l_4)) (σ) τ  (fun c9 k9 h9 => h0 c9 k9 (by omega)) (fun c9 k9 h9 => t0 c9 k9 (by omega))) cw_X3_15 ⟨Nat.le_of_ble_eq_true rfl, Nat.le_of_ble_eq_true rfl⟩ rfl hl.1 rfl (Nat.le_of_ble_eq_true rfl) ⟨Nat.le_of_ble_eq_true rfl, Nat.le_of_ble_eq_true rfl⟩ dX3_init_30 (fun H locs hY => ?_)
  refine y_aast S hK hA hY hn 1 30 rfl (y_at (y_l2 l_4) rfl) 4 rfl (gx_in rfl (by decide) (by decide)) (Nat.le_of_ble_eq_true rfl) dX3_init_33 (fun H locs hY => ?_)
  have hY : gx_Y tb ((.inl (4, [some (some (n + 1)), none, none])) :: (.inr (3, 15, [some (n + 2), some (n + 9), some (n + 16), some (n + 23), some (n + 30), none, none, none, none, none, none, none, none, none, none])) :: (M_4 ++ (b_Scene (n + 30)))) _ E s (σ) τ H _ := hY
  obtain ⟨M_5, e_5, l_5, hY⟩ := y_abs2 l_4 (j := 7) rfl hY
  have l_5 : M_5.length = 35 := l_5
  refine lv_iinc (v := 5) (lv' := [(1, .int 5), (0, .ref (E.2.2 + (n + 0)))]) hx hb dX3_init_34 hl (k := 0) rfl (by decide) (by decide) rfl (fun ls hl => ?_)
  refine lv_goto (tgt := 15) hx hb dX3_init_37 (by decide) ?_
  refine lv_iload_n hx hb dX3_init_15 rfl (lv_at hl 0 rfl) ?_
  refine lv_bipush (v := 15) hx hb dX3_init_16 (by decide) ?_
  refine lv_icmp_ge (tgt := 40) hx hb dX3_init_18 (by decide) (fun h => absurd h (by decide)) (fun _ => ?_)
  refine lv_aload_n hx hb dX3_init_21 rfl (lv_at hl 1 rfl) ?_
  refine y_getr (j := (n + 1)) S hK hY hn 0 rfl cl_4 0 (by decide) rfl mw_319 rfl dX3_init_22 ?_
  refine lv_iload_n hx hb dX3_init_25 rfl (lv_at hl 0 rfl) ?_
  refine y_new S hK hY hn 37 (y_l2 l_5) cl_7 tyX6 tyX6_ok [some none, some none, some none, some none, some none, some none, none, none, none, none, none] (fun j hj => by rcases (show j = 0 ∨ j = 1 ∨ j = 2 ∨ j = 3 ∨ j = 4 ∨ j = 5 ∨ j = 6 ∨ j = 7 ∨ j = 8 ∨ j = 9 ∨ j = 10 by omega) with rfl | rfl | rfl | rfl | rfl | rfl | rfl | rfl | rfl | rfl | rfl <;> rfl) (fun c9 k9 h9 => h0 c9 k9 (by omega)) mwc_X3_9 mw_259 mw_95 ⟨Nat.le_of_ble_eq_true rfl, Nat.le_of_ble_eq_true rfl⟩ dX3_init_26 (fun H hY => ?_)
  refine lv_dup hx hb dX3_init_29 rfl ?_
  refine y_cN (K := 37) (As := []) (rest := [.ref (E.2.2 + (n + 37)), .int 5, .ref (E.2.2 + (n + 1))]) S hK hN hA hY hn (y_l2 l_5) (k_Scene l (E := E) _ (n + 37) (y_ln hn (y_l2 l_5)) (σ) τ  (fun c9 k9 h9 => h0 c9 k9 (by omega)) (fun c9 k9 h9 => t0 c9 k9 (by omega))) cw_X3_15 ⟨Nat.le_of_ble_eq_true rfl, Nat.le_of_ble_eq_true rfl⟩ rfl hl.1 rfl (Nat.le_of_ble_eq_true rfl) ⟨Nat.le_of_ble_eq_true rfl, Nat.le_of_ble_eq_true rfl⟩ dX3_init_30 (fun H locs hY => ?_)
  refine y_aast S hK hA hY hn 1 37 rfl (y_at (y_l2 l_5) rfl) 5 rfl (gx_in rfl (by decide) (by decide)) (Nat.le_of_ble_eq_true rfl) dX3_init_33 (fun H locs hY => ?_)
  have hY : gx_Y tb ((.inl (4, [some (some (n + 1)), none, none])) :: (.inr (3, 15, [some (n + 2), some (n + 9), some (n + 16), some (n + 23), some (n + 30), some (n + 37), none, none, none, none, none, none, none, none, none])) :: (M_5 ++ (b_Scene (n + 37)))) _ E s (σ) τ H _ := hY
  obtain ⟨M_6, e_6, l_6, hY⟩ := y_abs2 l_5 (j := 7) rfl hY
  have l_6 : M_6.length = 42 := l_6
  refine lv_iinc (v := 6) (lv' := [(1, .int 6), (0, .ref (E.2.2 + (n + 0)))]) hx hb dX3_init_34 hl (k := 0) rfl (by decide) (by decide) rfl (fun ls hl => ?_)
  refine lv_goto (tgt := 15) hx hb dX3_init_37 (by decide) ?_
  refine lv_iload_n hx hb dX3_init_15 rfl (lv_at hl 0 rfl) ?_
  refine lv_bipush (v := 15) hx hb dX3_init_16 (by decide) ?_
  refine lv_icmp_ge (tgt := 40) hx hb dX3_init_18 (by decide) (fun h => absurd h (by decide)) (fun _ => ?_)
  refine lv_aload_n hx hb dX3_init_21 rfl (lv_at hl 1 rfl) ?_
  refine y_getr (j := (n + 1)) S hK hY hn 0 rfl cl_4 0 (by decide) rfl mw_319 rfl dX3_init_22 ?_
  refine lv_iload_n hx hb dX3_init_25 rfl (lv_at hl 0 rfl) ?_
  refine y_new S hK hY hn 44 (y_l2 l_6) cl_7 tyX6 tyX6_ok [some none, some none, some none, some none, some none, some none, none, none, none, none, none] (fun j hj => by rcases (show j = 0 ∨ j = 1 ∨ j = 2 ∨ j = 3 ∨ j = 4 ∨ j = 5 ∨ j = 6 ∨ j = 7 ∨ j = 8 ∨ j = 9 ∨ j = 10 by omega) with rfl | rfl | rfl | rfl | rfl | rfl | rfl | rfl | rfl | rfl | rfl <;> rfl) (fun c9 k9 h9 => h0 c9 k9 (by omega)) mwc_X3_9 mw_259 mw_95 ⟨Nat.le_of_ble_eq_true rfl, Nat.le_of_ble_eq_true rfl⟩ dX3_init_26 (fun H hY => ?_)
  refine lv_dup hx hb dX3_init_29 rfl ?_
  refine y_cN (K := 44) (As := []) (rest := [.ref (E.2.2 + (n + 44)), .int 6, .ref (E.2.2 + (n + 1))]) S hK hN hA hY hn (y_l2 l_6) (k_Scene l (E := E) _ (n + 44) (y_ln hn (y_l2 l_6)) (σ) τ  (fun c9 k9 h9 => h0 c9 k9 (by omega)) (fun c9 k9 h9 => t0 c9 k9 (by omega))) cw_X3_15 ⟨Nat.le_of_ble_eq_true rfl, Nat.le_of_ble_eq_true rfl⟩ rfl hl.1 rfl (Nat.le_of_ble_eq_true rfl) ⟨Nat.le_of_ble_eq_true rfl, Nat.le_of_ble_eq_true rfl⟩ dX3_init_30 (fun H locs hY => ?_)
  refine y_aast S hK hA hY hn 1 44 rfl (y_at (y_l2 l_6) rfl) 6 rfl (gx_in rfl (by decide) (by decide)) (Nat.le_of_ble_eq_true rfl) dX3_init_33 (fun H locs hY => ?_)
  have hY : gx_Y tb ((.inl (4, [some (some (n + 1)), none, none])) :: (.inr (3, 15, [some (n + 2), some (n + 9), some (n + 16), some (n + 23), some (n + 30), some (n + 37), some (n + 44), none, none, none, none, none, none, none, none])) :: (M_6 ++ (b_Scene (n + 44)))) _ E s (σ) τ H _ := hY
  obtain ⟨M_7, e_7, l_7, hY⟩ := y_abs2 l_6 (j := 7) rfl hY
  have l_7 : M_7.length = 49 := l_7
  refine lv_iinc (v := 7) (lv' := [(1, .int 7), (0, .ref (E.2.2 + (n + 0)))]) hx hb dX3_init_34 hl (k := 0) rfl (by decide) (by decide) rfl (fun ls hl => ?_)
  refine lv_goto (tgt := 15) hx hb dX3_init_37 (by decide) ?_
  refine lv_iload_n hx hb dX3_init_15 rfl (lv_at hl 0 rfl) ?_
  refine lv_bipush (v := 15) hx hb dX3_init_16 (by decide) ?_
  refine lv_icmp_ge (tgt := 40) hx hb dX3_init_18 (by decide) (fun h => absurd h (by decide)) (fun _ => ?_)
  refine lv_aload_n hx hb dX3_init_21 rfl (lv_at hl 1 rfl) ?_
  refine y_getr (j := (n + 1)) S hK hY hn 0 rfl cl_4 0 (by decide) rfl mw_319 rfl dX3_init_22 ?_
  refine lv_iload_n hx hb dX3_init_25 rfl (lv_at hl 0 rfl) ?_
  refine y_new S hK hY hn 51 (y_l2 l_7) cl_7 tyX6 tyX6_ok [some none, some none, some none, some none, some none, some none, none, none, none, none, none] (fun j hj => by rcases (show j = 0 ∨ j = 1 ∨ j = 2 ∨ j = 3 ∨ j = 4 ∨ j = 5 ∨ j = 6 ∨ j = 7 ∨ j = 8 ∨ j = 9 ∨ j = 10 by omega) with rfl | rfl | rfl | rfl | rfl | rfl | rfl | rfl | rfl | rfl | rfl <;> rfl) (fun c9 k9 h9 => h0 c9 k9 (by omega)) mwc_X3_9 mw_259 mw_95 ⟨Nat.le_of_ble_eq_true rfl, Nat.le_of_ble_eq_true rfl⟩ dX3_init_26 (fun H hY => ?_)
  refine lv_dup hx hb dX3_init_29 rfl ?_
  refine y_cN (K := 51) (As := []) (rest := [.ref (E.2.2 + (n + 51)), .int 7, .ref (E.2.2 + (n + 1))]) S hK hN hA hY hn (y_l2 l_7) (k_Scene l (E := E) _ (n + 51) (y_ln hn (y_l2 l_7)) (σ) τ  (fun c9 k9 h9 => h0 c9 k9 (by omega)) (fun c9 k9 h9 => t0 c9 k9 (by omega))) cw_X3_15 ⟨Nat.le_of_ble_eq_true rfl, Nat.le_of_ble_eq_true rfl⟩ rfl hl.1 rfl (Nat.le_of_ble_eq_true rfl) ⟨Nat.le_of_ble_eq_true rfl, Nat.le_of_ble_eq_true rfl⟩ dX3_init_30 (fun H locs hY => ?_)
  refine y_aast S hK hA hY hn 1 51 rfl (y_at (y_l2 l_7) rfl) 7 rfl (gx_in rfl (by decide) (by decide)) (Nat.le_of_ble_eq_true rfl) dX3_init_33 (fun H locs hY => ?_)
  have hY : gx_Y tb ((.inl (4, [some (some (n + 1)), none, none])) :: (.inr (3, 15, [some (n + 2), some (n + 9), some (n + 16), some (n + 23), some (n + 30), some (n + 37), some (n + 44), some (n + 51), none, none, none, none, none, none, none])) :: (M_7 ++ (b_Scene (n + 51)))) _ E s (σ) τ H _ := hY
  obtain ⟨M_8, e_8, l_8, hY⟩ := y_abs2 l_7 (j := 7) rfl hY
  have l_8 : M_8.length = 56 := l_8
  refine lv_iinc (v := 8) (lv' := [(1, .int 8), (0, .ref (E.2.2 + (n + 0)))]) hx hb dX3_init_34 hl (k := 0) rfl (by decide) (by decide) rfl (fun ls hl => ?_)
  refine lv_goto (tgt := 15) hx hb dX3_init_37 (by decide) ?_
  refine lv_iload_n hx hb dX3_init_15 rfl (lv_at hl 0 rfl) ?_
  refine lv_bipush (v := 15) hx hb dX3_init_16 (by decide) ?_
  refine lv_icmp_ge (tgt := 40) hx hb dX3_init_18 (by decide) (fun h => absurd h (by decide)) (fun _ => ?_)
  refine lv_aload_n hx hb dX3_init_21 rfl (lv_at hl 1 rfl) ?_
  refine y_getr (j := (n + 1)) S hK hY hn 0 rfl cl_4 0 (by decide) rfl mw_319 rfl dX3_init_22 ?_
  refine lv_iload_n hx hb dX3_init_25 rfl (lv_at hl 0 rfl) ?_
  refine y_new S hK hY hn 58 (y_l2 l_8) cl_7 tyX6 tyX6_ok [some none, some none, some none, some none, some none, some none, none, none, none, none, none] (fun j hj => by rcases (show j = 0 ∨ j = 1 ∨ j = 2 ∨ j = 3 ∨ j = 4 ∨ j = 5 ∨ j = 6 ∨ j = 7 ∨ j = 8 ∨ j = 9 ∨ j = 10 by omega) with rfl | rfl | rfl | rfl | rfl | rfl | rfl | rfl | rfl | rfl | rfl <;> rfl) (fun c9 k9 h9 => h0 c9 k9 (by omega)) mwc_X3_9 mw_259 mw_95 ⟨Nat.le_of_ble_eq_true rfl, Nat.le_of_ble_eq_true rfl⟩ dX3_init_26 (fun H hY => ?_)
  refine lv_dup hx hb dX3_init_29 rfl ?_
  refine y_cN (K := 58) (As := []) (rest := [.ref (E.2.2 + (n + 58)), .int 8, .ref (E.2.2 + (n + 1))]) S hK hN hA hY hn (y_l2 l_8) (k_Scene l (E := E) _ (n + 58) (y_ln hn (y_l2 l_8)) (σ) τ  (fun c9 k9 h9 => h0 c9 k9 (by omega)) (fun c9 k9 h9 => t0 c9 k9 (by omega))) cw_X3_15 ⟨Nat.le_of_ble_eq_true rfl, Nat.le_of_ble_eq_true rfl⟩ rfl hl.1 rfl (Nat.le_of_ble_eq_true rfl) ⟨Nat.le_of_ble_eq_true rfl, Nat.le_of_ble_eq_true rfl⟩ dX3_init_30 (fun H locs hY => ?_)
  refine y_aast S hK hA hY hn 1 58 rfl (y_at (y_l2 l_8) rfl) 8 rfl (gx_in rfl (by decide) (by decide)) (Nat.le_of_ble_eq_true rfl) dX3_init_33 (fun H locs hY => ?_)
  have hY : gx_Y tb ((.inl (4, [some (some (n + 1)), none, none])) :: (.inr (3, 15, [some (n + 2), some (n + 9), some (n + 16), some (n + 23), some (n + 30), some (n + 37), some (n + 44), some (n + 51), some (n + 58), none, none, none, none, none, none])) :: (M_8 ++ (b_Scene (n + 58)))) _ E s (σ) τ H _ := hY
  obtain ⟨M_9, e_9, l_9, hY⟩ := y_abs2 l_8 (j := 7) rfl hY
  have l_9 : M_9.length = 63 := l_9
  refine lv_iinc (v := 9) (lv' := [(1, .int 9), (0, .ref (E.2.2 + (n + 0)))]) hx hb dX3_init_34 hl (k := 0) rfl (by decide) (by decide) rfl (fun ls hl => ?_)
  refine lv_goto (tgt := 15) hx hb dX3_init_37 (by decide) ?_
  refine lv_iload_n hx hb dX3_init_15 rfl (lv_at hl 0 rfl) ?_
  refine lv_bipush (v := 15) hx hb dX3_init_16 (by decide) ?_
  refine lv_icmp_ge (tgt := 40) hx hb dX3_init_18 (by decide) (fun h => absurd h (by decide)) (fun _ => ?_)
  refine lv_aload_n hx hb dX3_init_21 rfl (lv_at hl 1 rfl) ?_
  refine y_getr (j := (n + 1)) S hK hY hn 0 rfl cl_4 0 (by decide) rfl mw_319 rfl dX3_init_22 ?_
  refine lv_iload_n hx hb dX3_init_25 rfl (lv_at hl 0 rfl) ?_
  refine y_new S hK hY hn 65 (y_l2 l_9) cl_7 tyX6 tyX6_ok [some none, some none, some none, some none, some none, some none, none, none, none, none, none] (fun j hj => by rcases (show j = 0 ∨ j = 1 ∨ j = 2 ∨ j = 3 ∨ j = 4 ∨ j = 5 ∨ j = 6 ∨ j = 7 ∨ j = 8 ∨ j = 9 ∨ j = 10 by omega) with rfl | rfl | rfl | rfl | rfl | rfl | rfl | rfl | rfl | rfl | rfl <;> rfl) (fun c9 k9 h9 => h0 c9 k9 (by omega)) mwc_X3_9 mw_259 mw_95 ⟨Nat.le_of_ble_eq_true rfl, Nat.le_of_ble_eq_true rfl⟩ dX3_init_26 (fun H hY => ?_)
  refine lv_dup hx hb dX3_init_29 rfl ?_
  refine y_cN (K := 65) (As := []) (rest := [.ref (E.2.2 + (n + 65)), .int 9, .ref (E.2.2 + (n + 1))]) S hK hN hA hY hn (y_l2 l_9) (k_Scene l (E := E) _ (n + 65) (y_ln hn (y_l2 l_9)) (σ) τ  (fun c9 k9 h9 => h0 c9 k9 (by omega)) (fun c9 k9 h9 => t0 c9 k9 (by omega))) cw_X3_15 ⟨Nat.le_of_ble_eq_true rfl, Nat.le_of_ble_eq_true rfl⟩ rfl hl.1 rfl (Nat.le_of_ble_eq_true rfl) ⟨Nat.le_of_ble_eq_true rfl, Nat.le_of_ble_eq_true rfl⟩ dX3_init_30 (fun H locs hY => ?_)
  refine y_aast S hK hA hY hn 1 65 rfl (y_at (y_l2 l_9) rfl) 9 rfl (gx_in rfl (by decide) (by decide)) (Nat.le_of_ble_eq_true rfl) dX3_init_33 (fun H locs hY => ?_)
  have hY : gx_Y tb ((.inl (4, [some (some (n + 1)), none, none])) :: (.inr (3, 15, [some (n + 2), some (n + 9), some (n + 16), some (n + 23), some (n + 30), some (n + 37), some (n + 44), some (n + 51), some (n + 58), some (n + 65), none, none, none, none, none])) :: (M_9 ++ (b_Scene (n + 65)))) _ E s (σ) τ H _ := hY
  obtain ⟨M_10, e_10, l_10, hY⟩ := y_abs2 l_9 (j := 7) rfl hY
  have l_10 : M_10.length = 70 := l_10
  refine lv_iinc (v := 10) (lv' := [(1, .int 10), (0, .ref (E.2.2 + (n + 0)))]) hx hb dX3_init_34 hl (k := 0) rfl (by decide) (by decide) rfl (fun ls hl => ?_)
  refine lv_goto (tgt := 15) hx hb dX3_init_37 (by decide) ?_
  refine lv_iload_n hx hb dX3_init_15 rfl (lv_at hl 0 rfl) ?_
  refine lv_bipush (v := 15) hx hb dX3_init_16 (by decide) ?_
  refine lv_icmp_ge (tgt := 40) hx hb dX3_init_18 (by decide) (fun h => absurd h (by decide)) (fun _ => ?_)
  refine lv_aload_n hx hb dX3_init_21 rfl (lv_at hl 1 rfl) ?_
  refine y_getr (j := (n + 1)) S hK hY hn 0 rfl cl_4 0 (by decide) rfl mw_319 rfl dX3_init_22 ?_
  refine lv_iload_n hx hb dX3_init_25 rfl (lv_at hl 0 rfl) ?_
  refine y_new S hK hY hn 72 (y_l2 l_10) cl_7 tyX6 tyX6_ok [some none, some none, some none, some none, some none, some none, none, none, none, none, none] (fun j hj => by rcases (show j = 0 ∨ j = 1 ∨ j = 2 ∨ j = 3 ∨ j = 4 ∨ j = 5 ∨ j = 6 ∨ j = 7 ∨ j = 8 ∨ j = 9 ∨ j = 10 by omega) with rfl | rfl | rfl | rfl | rfl | rfl | rfl | rfl | rfl | rfl | rfl <;> rfl) (fun c9 k9 h9 => h0 c9 k9 (by omega)) mwc_X3_9 mw_259 mw_95 ⟨Nat.le_of_ble_eq_true rfl, Nat.le_of_ble_eq_true rfl⟩ dX3_init_26 (fun H hY => ?_)
  refine lv_dup hx hb dX3_init_29 rfl ?_
  refine y_cN (K := 72) (As := []) (rest := [.ref (E.2.2 + (n + 72)), .int 10, .ref (E.2.2 + (n + 1))]) S hK hN hA hY hn (y_l2 l_10) (k_Scene l (E := E) _ (n + 72) (y_ln hn (y_l2 l_10)) (σ) τ  (fun c9 k9 h9 => h0 c9 k9 (by omega)) (fun c9 k9 h9 => t0 c9 k9 (by omega))) cw_X3_15 ⟨Nat.le_of_ble_eq_true rfl, Nat.le_of_ble_eq_true rfl⟩ rfl hl.1 rfl (Nat.le_of_ble_eq_true rfl) ⟨Nat.le_of_ble_eq_true rfl, Nat.le_of_ble_eq_true rfl⟩ dX3_init_30 (fun H locs hY => ?_)
  refine y_aast S hK hA hY hn 1 72 rfl (y_at (y_l2 l_10) rfl) 10 rfl (gx_in rfl (by decide) (by decide)) (Nat.le_of_ble_eq_true rfl) dX3_init_33 (fun H locs hY => ?_)
  have hY : gx_Y tb ((.inl (4, [some (some (n + 1)), none, none])) :: (.inr (3, 15, [some (n + 2), some (n + 9), some (n + 16), some (n + 23), some (n + 30), some (n + 37), some (n + 44), some (n + 51), some (n + 58), some (n + 65), some (n + 72), none, none, none, none])) :: (M_10 ++ (b_Scene (n + 72)))) _ E s (σ) τ H _ := hY
  obtain ⟨M_11, e_11, l_11, hY⟩ := y_abs2 l_10 (j := 7) rfl hY
  have l_11 : M_11.length = 77 := l_11
  refine lv_iinc (v := 11) (lv' := [(1, .int 11), (0, .ref (E.2.2 + (n + 0)))]) hx hb dX3_init_34 hl (k := 0) rfl (by decide) (by decide) rfl (fun ls hl => ?_)
  refine lv_goto (tgt := 15) hx hb dX3_init_37 (by decide) ?_
  refine lv_iload_n hx hb dX3_init_15 rfl (lv_at hl 0 rfl) ?_
  refine lv_bipush (v := 15) hx hb dX3_init_16 (by decide) ?_
  refine lv_icmp_ge (tgt := 40) hx hb dX3_init_18 (by decide) (fun h => absurd h (by decide)) (fun _ => ?_)
  refine lv_aload_n hx hb dX3_init_21 rfl (lv_at hl 1 rfl) ?_
  refine y_getr (j := (n + 1)) S hK hY hn 0 rfl cl_4 0 (by decide) rfl mw_319 rfl dX3_init_22 ?_
  refine lv_iload_n hx hb dX3_init_25 rfl (lv_at hl 0 rfl) ?_
  refine y_new S hK hY hn 79 (y_l2 l_11) cl_7 tyX6 tyX6_ok [some none, some none, some none, some none, some none, some none, none, none, none, none, none] (fun j hj => by rcases (show j = 0 ∨ j = 1 ∨ j = 2 ∨ j = 3 ∨ j = 4 ∨ j = 5 ∨ j = 6 ∨ j = 7 ∨ j = 8 ∨ j = 9 ∨ j = 10 by omega) with rfl | rfl | rfl | rfl | rfl | rfl | rfl | rfl | rfl | rfl | rfl <;> rfl) (fun c9 k9 h9 => h0 c9 k9 (by omega)) mwc_X3_9 mw_259 mw_95 ⟨Nat.le_of_ble_eq_true rfl, Nat.le_of_ble_eq_true rfl⟩ dX3_init_26 (fun H hY => ?_)
  refine lv_dup hx hb dX3_init_29 rfl ?_
  refine y_cN (K := 79) (As := []) (rest := [.ref (E.2.2 + (n + 79)), .int 11, .ref (E.2.2 + (n + 1))]) S hK hN hA hY hn (y_l2 l_11) (k_Scene l (E := E) _ (n + 79) (y_ln hn (y_l2 l_11)) (σ) τ  (fun c9 k9 h9 => h0 c9 k9 (by omega)) (fun c9 k9 h9 => t0 c9 k9 (by omega))) cw_X3_15 ⟨Nat.le_of_ble_eq_true rfl, Nat.le_of_ble_eq_true rfl⟩ rfl hl.1 rfl (Nat.le_of_ble_eq_true rfl) ⟨Nat.le_of_ble_eq_true rfl, Nat.le_of_ble_eq_true rfl⟩ dX3_init_30 (fun H locs hY => ?_)
  refine y_aast S hK hA hY hn 1 79 rfl (y_at (y_l2 l_11) rfl) 11 rfl (gx_in rfl (by decide) (by decide)) (Nat.le_of_ble_eq_true rfl) dX3_init_33 (fun H locs hY => ?_)
  have hY : gx_Y tb ((.inl (4, [some (some (n + 1)), none, none])) :: (.inr (3, 15, [some (n + 2), some (n + 9), some (n + 16), some (n + 23), some (n + 30), some (n + 37), some (n + 44), some (n + 51), some (n + 58), some (n + 65), some (n + 72), some (n + 79), none, none, none])) :: (M_11 ++ (b_Scene (n + 79)))) _ E s (σ) τ H _ := hY
  obtain ⟨M_12, e_12, l_12, hY⟩ := y_abs2 l_11 (j := 7) rfl hY
  have l_12 : M_12.length = 84 := l_12
  refine lv_iinc (v := 12) (lv' := [(1, .int 12), (0, .ref (E.2.2 + (n + 0)))]) hx hb dX3_init_34 hl (k := 0) rfl (by decide) (by decide) rfl (fun ls hl => ?_)
  refine lv_goto (tgt := 15) hx hb dX3_init_37 (by decide) ?_
  refine lv_iload_n hx hb dX3_init_15 rfl (lv_at hl 0 rfl) ?_
  refine lv_bipush (v := 15) hx hb dX3_init_16 (by decide) ?_
  refine lv_icmp_ge (tgt := 40) hx hb dX3_init_18 (by decide) (fun h => absurd h (by decide)) (fun _ => ?_)
  refine lv_aload_n hx hb dX3_init_21 rfl (lv_at hl 1 rfl) ?_
  refine y_getr (j := (n + 1)) S hK hY hn 0 rfl cl_4 0 (by decide) rfl mw_319 rfl dX3_init_22 ?_
  refine lv_iload_n hx hb dX3_init_25 rfl (lv_at hl 0 rfl) ?_
  refine y_new S hK hY hn 86 (y_l2 l_12) cl_7 tyX6 tyX6_ok [some none, some none, some none, some none, some none, some none, none, none, none, none, none] (fun j hj => by rcases (show j = 0 ∨ j = 1 ∨ j = 2 ∨ j = 3 ∨ j = 4 ∨ j = 5 ∨ j = 6 ∨ j = 7 ∨ j = 8 ∨ j = 9 ∨ j = 10 by omega) with rfl | rfl | rfl | rfl | rfl | rfl | rfl | rfl | rfl | rfl | rfl <;> rfl) (fun c9 k9 h9 => h0 c9 k9 (by omega)) mwc_X3_9 mw_259 mw_95 ⟨Nat.le_of_ble_eq_true rfl, Nat.le_of_ble_eq_true rfl⟩ dX3_init_26 (fun H hY => ?_)
  refine lv_dup hx hb dX3_init_29 rfl ?_
  refine y_cN (K := 86) (As := []) (rest := [.ref (E.2.2 + (n + 86)), .int 12, .ref (E.2.2 + (n + 1))]) S hK hN hA hY hn (y_l2 l_12) (k_Scene l (E := E) _ (n + 86) (y_ln hn (y_l2 l_12)) (σ) τ  (fun c9 k9 h9 => h0 c9 k9 (by omega)) (fun c9 k9 h9 => t0 c9 k9 (by omega))) cw_X3_15 ⟨Nat.le_of_ble_eq_true rfl, Nat.le_of_ble_eq_true rfl⟩ rfl hl.1 rfl (Nat.le_of_ble_eq_true rfl) ⟨Nat.le_of_ble_eq_true rfl, Nat.le_of_ble_eq_true rfl⟩ dX3_init_30 (fun H locs hY => ?_)
  refine y_aast S hK hA hY hn 1 86 rfl (y_at (y_l2 l_12) rfl) 12 rfl (gx_in rfl (by decide) (by decide)) (Nat.le_of_ble_eq_true rfl) dX3_init_33 (fun H locs hY => ?_)
  have hY : gx_Y tb ((.inl (4, [some (some (n + 1)), none, none])) :: (.inr (3, 15, [some (n + 2), some (n + 9), some (n + 16), some (n + 23), some (n + 30), some (n + 37), some (n + 44), some (n + 51), some (n + 58), some (n + 65), some (n + 72), some (n + 79), some (n + 86), none, none])) :: (M_12 ++ (b_Scene (n + 86)))) _ E s (σ) τ H _ := hY
  obtain ⟨M_13, e_13, l_13, hY⟩ := y_abs2 l_12 (j := 7) rfl hY
  have l_13 : M_13.length = 91 := l_13
  refine lv_iinc (v := 13) (lv' := [(1, .int 13), (0, .ref (E.2.2 + (n + 0)))]) hx hb dX3_init_34 hl (k := 0) rfl (by decide) (by decide) rfl (fun ls hl => ?_)
  refine lv_goto (tgt := 15) hx hb dX3_init_37 (by decide) ?_
  refine lv_iload_n hx hb dX3_init_15 rfl (lv_at hl 0 rfl) ?_
  refine lv_bipush (v := 15) hx hb dX3_init_16 (by decide) ?_
  refine lv_icmp_ge (tgt := 40) hx hb dX3_init_18 (by decide) (fun h => absurd h (by decide)) (fun _ => ?_)
  refine lv_aload_n hx hb dX3_init_21 rfl (lv_at hl 1 rfl) ?_
  refine y_getr (j := (n + 1)) S hK hY hn 0 rfl cl_4 0 (by decide) rfl mw_319 rfl dX3_init_22 ?_
  refine lv_iload_n hx hb dX3_init_25 rfl (lv_at hl 0 rfl) ?_
  refine y_new S hK hY hn 93 (y_l2 l_13) cl_7 tyX6 tyX6_ok [some none, some none, some none, some none, some none, some none, none, none, none, none, none] (fun j hj => by rcases (show j = 0 ∨ j = 1 ∨ j = 2 ∨ j = 3 ∨ j = 4 ∨ j = 5 ∨ j = 6 ∨ j = 7 ∨ j = 8 ∨ j = 9 ∨ j = 10 by omega) with rfl | rfl | rfl | rfl | rfl | rfl | rfl | rfl | rfl | rfl | rfl <;> rfl) (fun c9 k9 h9 => h0 c9 k9 (by omega)) mwc_X3_9 mw_259 mw_95 ⟨Nat.le_of_ble_eq_true rfl, Nat.le_of_ble_eq_true rfl⟩ dX3_init_26 (fun H hY => ?_)
  refine lv_dup hx hb dX3_init_29 rfl ?_
  refine y_cN (K := 93) (As := []) (rest := [.ref (E.2.2 + (n + 93)), .int 13, .ref (E.2.2 + (n + 1))]) S hK hN hA hY hn (y_l2 l_13) (k_Scene l (E := E) _ (n + 93) (y_ln hn (y_l2 l_13)) (σ) τ  (fun c9 k9 h9 => h0 c9 k9 (by omega)) (fun c9 k9 h9 => t0 c9 k9 (by omega))) cw_X3_15 ⟨Nat.le_of_ble_eq_true rfl, Nat.le_of_ble_eq_true rfl⟩ rfl hl.1 rfl (Nat.le_of_ble_eq_true rfl) ⟨Nat.le_of_ble_eq_true rfl, Nat.le_of_ble_eq_true rfl⟩ dX3_init_30 (fun H locs hY => ?_)
  refine y_aast S hK hA hY hn 1 93 rfl (y_at (y_l2 l_13) rfl) 13 rfl (gx_in rfl (by decide) (by decide)) (Nat.le_of_ble_eq_true rfl) dX3_init_33 (fun H locs hY => ?_)
  have hY : gx_Y tb ((.inl (4, [some (some (n + 1)), none, none])) :: (.inr (3, 15, [some (n + 2), some (n + 9), some (n + 16), some (n + 23), some (n + 30), some (n + 37), some (n + 44), some (n + 51), some (n + 58), some (n + 65), some (n + 72), some (n + 79), some (n + 86), some (n + 93), none])) :: (M_13 ++ (b_Scene (n + 93)))) _ E s (σ) τ H _ := hY
  obtain ⟨M_14, e_14, l_14, hY⟩ := y_abs2 l_13 (j := 7) rfl hY
  have l_14 : M_14.length = 98 := l_14
  refine lv_iinc (v := 14) (lv' := [(1, .int 14), (0, .ref (E.2.2 + (n + 0)))]) hx hb dX3_init_34 hl (k := 0) rfl (by decide) (by decide) rfl (fun ls hl => ?_)
  refine lv_goto (tgt := 15) hx hb dX3_init_37 (by decide) ?_
  refine lv_iload_n hx hb dX3_init_15 rfl (lv_at hl 0 rfl) ?_
  refine lv_bipush (v := 15) hx hb dX3_init_16 (by decide) ?_
  refine lv_icmp_ge (tgt := 40) hx hb dX3_init_18 (by decide) (fun h => absurd h (by decide)) (fun _ => ?_)
  refine lv_aload_n hx hb dX3_init_21 rfl (lv_at hl 1 rfl) ?_
  refine y_getr (j := (n + 1)) S hK hY hn 0 rfl cl_4 0 (by decide) rfl mw_319 rfl dX3_init_22 ?_
  refine lv_iload_n hx hb dX3_init_25 rfl (lv_at hl 0 rfl) ?_
  refine y_new S hK hY hn 100 (y_l2 l_14) cl_7 tyX6 tyX6_ok [some none, some none, some none, some none, some none, some none, none, none, none, none, none] (fun j hj => by rcases (show j = 0 ∨ j = 1 ∨ j = 2 ∨ j = 3 ∨ j = 4 ∨ j = 5 ∨ j = 6 ∨ j = 7 ∨ j = 8 ∨ j = 9 ∨ j = 10 by omega) with rfl | rfl | rfl | rfl | rfl | rfl | rfl | rfl | rfl | rfl | rfl <;> rfl) (fun c9 k9 h9 => h0 c9 k9 (by omega)) mwc_X3_9 mw_259 mw_95 ⟨Nat.le_of_ble_eq_true rfl, Nat.le_of_ble_eq_true rfl⟩ dX3_init_26 (fun H hY => ?_)
  refine lv_dup hx hb dX3_init_29 rfl ?_
  refine y_cN (K := 100) (As := []) (rest := [.ref (E.2.2 + (n + 100)), .int 14, .ref (E.2.2 + (n + 1))]) S hK hN hA hY hn (y_l2 l_14) (k_Scene l (E := E) _ (n + 100) (y_ln hn (y_l2 l_14)) (σ) τ  (fun c9 k9 h9 => h0 c9 k9 (by omega)) (fun c9 k9 h9 => t0 c9 k9 (by omega))) cw_X3_15 ⟨Nat.le_of_ble_eq_true rfl, Nat.le_of_ble_eq_true rfl⟩ rfl hl.1 rfl (Nat.le_of_ble_eq_true rfl) ⟨Nat.le_of_ble_eq_true rfl, Nat.le_of_ble_eq_true rfl⟩ dX3_init_30 (fun H locs hY => ?_)
  refine y_aast S hK hA hY hn 1 100 rfl (y_at (y_l2 l_14) rfl) 14 rfl (gx_in rfl (by decide) (by decide)) (Nat.le_of_ble_eq_true rfl) dX3_init_33 (fun H locs hY => ?_)
  have hY : gx_Y tb ((.inl (4, [some (some (n + 1)), none, none])) :: (.inr (3, 15, [some (n + 2), some (n + 9), some (n + 16), some (n + 23), some (n + 30), some (n + 37), some (n + 44), some (n + 51), some (n + 58), some (n + 65), some (n + 72), some (n + 79), some (n + 86), some (n + 93), some (n + 100)])) :: (M_14 ++ (b_Scene (n + 100)))) _ E s (σ) τ H _ := hY
  obtain ⟨M_15, e_15, l_15, hY⟩ := y_abs2 l_14 (j := 7) rfl hY
  have l_15 : M_15.length = 105 := l_15
  refine lv_iinc (v := 15) (lv' := [(1, .int 15), (0, .ref (E.2.2 + (n + 0)))]) hx hb dX3_init_34 hl (k := 0) rfl (by decide) (by decide) rfl (fun ls hl => ?_)
  refine lv_goto (tgt := 15) hx hb dX3_init_37 (by decide) ?_
  refine lv_iload_n hx hb dX3_init_15 rfl (lv_at hl 0 rfl) ?_
  refine lv_bipush (v := 15) hx hb dX3_init_16 (by decide) ?_
  refine lv_icmp_ge (tgt := 40) hx hb dX3_init_18 (by decide) (fun _ => ?_) (fun h => absurd (by decide) h)
  have q : (.inl (4, [some (some (n + 1)), none, none])) :: (.inr (3, 15, [some (n + 2), some (n + 9), some (n + 16), some (n + 23), some (n + 30), some (n + 37), some (n + 44), some (n + 51), some (n + 58), some (n + 65), some (n + 72), some (n + 79), some (n + 86), some (n + 93), some (n + 100)])) :: M_15 = b_Past n := by
    rw [e_15, e_14, e_13, e_12, e_11, e_10, e_9, e_8, e_7, e_6, e_5, e_4, e_3, e_2, e_1, e_0]
    simp only [List.append_assoc, List.nil_append, List.cons_append]
    rfl
  have hY := y_cv q hY
  exact y_r S hr hlk hY dX3_init_40
def b_Trials (n : Nat) (a1 : Nat) (a2 : Nat) : List gD := @HAppend.hAppend (List gD) (List gD) (List gD) _ (@HAppend.hAppend (List gD) (List gD) (List gD) _ (@HAppend.hAppend (List gD) (List gD) (List gD) _ (@HAppend.hAppend (List gD) (List gD) (List gD) _ (@HAppend.hAppend (List gD) (List gD) (List gD) _ ([.inl (10, [some (some a1), some (some a2), some (some (n + 1)), some (some (n + 2)), some (some (n + 3)), none, none, some (some (n + 4)), some (some (n + 11))])]) ([.inr (0, 4096, [])])) ([.inr (2, 4096, [])])) ([.inr (0, 13, [])])) (b_Scene (n + 4))) (b_Scene (n + 11))
set_option maxHeartbeats 4000000 in
set_option maxRecDepth 100000 in
theorem k_Trials (l : Launch) {E : gE} (tb : List gD) (n : Nat) (hn : tb.length = n) (σ : gI) (τ : gJ) (a1 : Nat) (a2 : Nat) (h0 : ∀ c k : Nat, n ≤ c → σ c k = 0) (t0 : ∀ c k : Nat, n ≤ c → τ c k = 0) : gx_Mc l yX9_init cX9_init 3 2 17 8299 (tb ++ [.inl (10, [some none, some none, some none, some none, some none, none, none, some none, some none])]) (tb ++ b_Trials n a1 a2) E σ (σ) τ [.ref (E.2.2 + (n + 0)), .ref (E.2.2 + a1), .ref (E.2.2 + a2)] := by
  refine y_b (by decide +kernel) (Nat.le_of_ble_eq_true rfl) ?_
  intro P9 e9 s m9 below meth C9 S hr hlk hnm hK hN hA hY ls hl
  have S : CallFix P9 m9 C9 cX9_init 3 s _ gx_G RX9 := S
  have hx := S.1
  have hb := S.2.1
  have hl : lv_has ls 3 [(0, .ref (E.2.2 + (n + 0))), (1, .ref (E.2.2 + a1)), (2, .ref (E.2.2 + a2))] := hl
  refine lv_aload_n hx hb dX9_init_0 rfl (lv_at hl 0 rfl) ?_
  refine gx_obj S mw_413 mw_121 mw_122 hl.1 dX9_init_1 ⟨Nat.le_of_ble_eq_true rfl, Nat.le_of_ble_eq_true rfl⟩ ?_
  refine lv_aload_n hx hb dX9_init_4 rfl (lv_at hl 0 rfl) ?_
  refine lv_sipush (v := 4096) hx hb dX9_init_5 (by decide) ?_
  refine y_newI S hK hY hn 1 rfl (N := 4096) (by decide) (by decide) (by decide) (fun c9 k9 h9 => h0 c9 k9 (by omega)) mw_141 ⟨Nat.le_of_ble_eq_true rfl, Nat.le_of_ble_eq_true rfl⟩ dX9_init_8 (fun H hY => ?_)
  refine y_putF S hK hA hY hn 0 rfl cl_10 2 (Nat.le_of_ble_eq_true rfl) (Nat.le_of_ble_eq_true rfl) mw_418 rfl ⟨rfl, hnm, rfl⟩ (ty := .array .int) (j := (n + 1)) (by decide +kernel) rfl rfl dX9_init_10 (fun H locs hY => ?_)
  have hY : gx_Y tb (@HAppend.hAppend (List gD) (List gD) (List gD) _ ([.inl (10, [some none, some none, some (some (n + 1)), some none, some none, none, none, some none, some none])]) ([.inr (0, 4096, [])])) _ E s (σ) τ H _ := hY
  refine lv_aload_n hx hb dX9_init_13 rfl (lv_at hl 0 rfl) ?_
  refine lv_sipush (v := 4096) hx hb dX9_init_14 (by decide) ?_
  refine y_newZ S hK hY hn 2 rfl (N := 4096) (by decide) (by decide) (by decide) (fun c9 k9 h9 => h0 c9 k9 (by omega)) mw_446 ⟨Nat.le_of_ble_eq_true rfl, Nat.le_of_ble_eq_true rfl⟩ dX9_init_17 (fun H hY => ?_)
  refine y_putF S hK hA hY hn 0 rfl cl_10 3 (Nat.le_of_ble_eq_true rfl) (Nat.le_of_ble_eq_true rfl) mw_419 rfl ⟨rfl, hnm, rfl⟩ (ty := .array .boolean) (j := (n + 2)) (by decide +kernel) rfl rfl dX9_init_19 (fun H locs hY => ?_)
  have hY : gx_Y tb (@HAppend.hAppend (List gD) (List gD) (List gD) _ (@HAppend.hAppend (List gD) (List gD) (List gD) _ ([.inl (10, [some none, some none, some (some (n + 1)), some (some (n + 2)), some none, none, none, some none, some none])]) ([.inr (0, 4096, [])])) ([.inr (2, 4096, [])])) _ E s (σ) τ H _ := hY
  refine lv_aload_n hx hb dX9_init_22 rfl (lv_at hl 0 rfl) ?_
  refine lv_bipush (v := 13) hx hb dX9_init_23 (by decide) ?_
  refine y_newI S hK hY hn 3 rfl (N := 13) (by decide) (by decide) (by decide) (fun c9 k9 h9 => h0 c9 k9 (by omega)) mw_141 ⟨Nat.le_of_ble_eq_true rfl, Nat.le_of_ble_eq_true rfl⟩ dX9_init_25 (fun H hY => ?_)
  refine y_putF S hK hA hY hn 0 rfl cl_10 4 (Nat.le_of_ble_eq_true rfl) (Nat.le_of_ble_eq_true rfl) mw_420 rfl ⟨rfl, hnm, rfl⟩ (ty := .array .int) (j := (n + 3)) (by decide +kernel) rfl rfl dX9_init_27 (fun H locs hY => ?_)
  have hY : gx_Y tb (@HAppend.hAppend (List gD) (List gD) (List gD) _ (@HAppend.hAppend (List gD) (List gD) (List gD) _ (@HAppend.hAppend (List gD) (List gD) (List gD) _ ([.inl (10, [some none, some none, some (some (n + 1)), some (some (n + 2)), some (some (n + 3)), none, none, some none, some none])]) ([.inr (0, 4096, [])])) ([.inr (2, 4096, [])])) ([.inr (0, 13, [])])) _ E s (σ) τ H _ := hY
  refine lv_aload_n hx hb dX9_init_30 rfl (lv_at hl 0 rfl) ?_
  refine y_new S hK hY hn 4 rfl cl_7 tyX6 tyX6_ok [some none, some none, some none, some none, some none, some none, none, none, none, none, none] (fun j hj => by rcases (show j = 0 ∨ j = 1 ∨ j = 2 ∨ j = 3 ∨ j = 4 ∨ j = 5 ∨ j = 6 ∨ j = 7 ∨ j = 8 ∨ j = 9 ∨ j = 10 by omega) with rfl | rfl | rfl | rfl | rfl | rfl | rfl | rfl | rfl | rfl | rfl <;> rfl) (fun c9 k9 h9 => h0 c9 k9 (by omega)) mwc_X9_22 mw_259 mw_95 ⟨Nat.le_of_ble_eq_true rfl, Nat.le_of_ble_eq_true rfl⟩ dX9_init_31 (fun H hY => ?_)
  refine lv_dup hx hb dX9_init_34 rfl ?_
  refine y_cN (K := 4) (As := []) (rest := [.ref (E.2.2 + (n + 4)), .ref (E.2.2 + (n + 0))]) S hK hN hA hY hn rfl (k_Scene l (E := E) _ (n + 4) (y_ln hn rfl) (σ) τ  (fun c9 k9 h9 => h0 c9 k9 (by omega)) (fun c9 k9 h9 => t0 c9 k9 (by omega))) cw_X9_24 ⟨Nat.le_of_ble_eq_true rfl, Nat.le_of_ble_eq_true rfl⟩ rfl hl.1 rfl (Nat.le_of_ble_eq_true rfl) ⟨Nat.le_of_ble_eq_true rfl, Nat.le_of_ble_eq_true rfl⟩ dX9_init_35 (fun H locs hY => ?_)
  refine y_putF S hK hA hY hn 0 rfl cl_10 7 (Nat.le_of_ble_eq_true rfl) (Nat.le_of_ble_eq_true rfl) mw_423 rfl ⟨rfl, hnm, rfl⟩ (ty := .object "DownTheGutter$Scene") (j := (n + 4)) (by decide +kernel) rfl rfl dX9_init_38 (fun H locs hY => ?_)
  have hY : gx_Y tb (@HAppend.hAppend (List gD) (List gD) (List gD) _ (@HAppend.hAppend (List gD) (List gD) (List gD) _ (@HAppend.hAppend (List gD) (List gD) (List gD) _ (@HAppend.hAppend (List gD) (List gD) (List gD) _ ([.inl (10, [some none, some none, some (some (n + 1)), some (some (n + 2)), some (some (n + 3)), none, none, some (some (n + 4)), some none])]) ([.inr (0, 4096, [])])) ([.inr (2, 4096, [])])) ([.inr (0, 13, [])])) (b_Scene (n + 4))) _ E s (σ) τ H _ := hY
  refine lv_aload_n hx hb dX9_init_41 rfl (lv_at hl 0 rfl) ?_
  refine y_new S hK hY hn 11 rfl cl_7 tyX6 tyX6_ok [some none, some none, some none, some none, some none, some none, none, none, none, none, none] (fun j hj => by rcases (show j = 0 ∨ j = 1 ∨ j = 2 ∨ j = 3 ∨ j = 4 ∨ j = 5 ∨ j = 6 ∨ j = 7 ∨ j = 8 ∨ j = 9 ∨ j = 10 by omega) with rfl | rfl | rfl | rfl | rfl | rfl | rfl | rfl | rfl | rfl | rfl <;> rfl) (fun c9 k9 h9 => h0 c9 k9 (by omega)) mwc_X9_22 mw_259 mw_95 ⟨Nat.le_of_ble_eq_true rfl, Nat.le_of_ble_eq_true rfl⟩ dX9_init_42 (fun H hY => ?_)
  refine lv_dup hx hb dX9_init_45 rfl ?_
  refine y_cN (K := 11) (As := []) (rest := [.ref (E.2.2 + (n + 11)), .ref (E.2.2 + (n + 0))]) S hK hN hA hY hn rfl (k_Scene l (E := E) _ (n + 11) (y_ln hn rfl) (σ) τ  (fun c9 k9 h9 => h0 c9 k9 (by omega)) (fun c9 k9 h9 => t0 c9 k9 (by omega))) cw_X9_24 ⟨Nat.le_of_ble_eq_true rfl, Nat.le_of_ble_eq_true rfl⟩ rfl hl.1 rfl (Nat.le_of_ble_eq_true rfl) ⟨Nat.le_of_ble_eq_true rfl, Nat.le_of_ble_eq_true rfl⟩ dX9_init_46 (fun H locs hY => ?_)
  refine y_putF S hK hA hY hn 0 rfl cl_10 8 (Nat.le_of_ble_eq_true rfl) (Nat.le_of_ble_eq_true rfl) mw_425 rfl ⟨rfl, hnm, rfl⟩ (ty := .object "DownTheGutter$Scene") (j := (n + 11)) (by decide +kernel) rfl rfl dX9_init_49 (fun H locs hY => ?_)
  have hY : gx_Y tb (@HAppend.hAppend (List gD) (List gD) (List gD) _ (@HAppend.hAppend (List gD) (List gD) (List gD) _ (@HAppend.hAppend (List gD) (List gD) (List gD) _ (@HAppend.hAppend (List gD) (List gD) (List gD) _ (@HAppend.hAppend (List gD) (List gD) (List gD) _ ([.inl (10, [some none, some none, some (some (n + 1)), some (some (n + 2)), some (some (n + 3)), none, none, some (some (n + 4)), some (some (n + 11))])]) ([.inr (0, 4096, [])])) ([.inr (2, 4096, [])])) ([.inr (0, 13, [])])) (b_Scene (n + 4))) (b_Scene (n + 11))) _ E s (σ) τ H _ := hY
  refine lv_aload_n hx hb dX9_init_52 rfl (lv_at hl 0 rfl) ?_
  refine lv_aload_n hx hb dX9_init_53 rfl (lv_at hl 1 rfl) ?_
  refine y_putF S hK hA hY hn 0 rfl cl_10 0 (Nat.le_of_ble_eq_true rfl) (Nat.le_of_ble_eq_true rfl) mw_416 rfl ⟨rfl, hnm, rfl⟩ (ty := .object "DownTheGutter$Town") (j := a1) (by decide +kernel) rfl rfl dX9_init_54 (fun H locs hY => ?_)
  have hY : gx_Y tb (@HAppend.hAppend (List gD) (List gD) (List gD) _ (@HAppend.hAppend (List gD) (List gD) (List gD) _ (@HAppend.hAppend (List gD) (List gD) (List gD) _ (@HAppend.hAppend (List gD) (List gD) (List gD) _ (@HAppend.hAppend (List gD) (List gD) (List gD) _ ([.inl (10, [some (some a1), some none, some (some (n + 1)), some (some (n + 2)), some (some (n + 3)), none, none, some (some (n + 4)), some (some (n + 11))])]) ([.inr (0, 4096, [])])) ([.inr (2, 4096, [])])) ([.inr (0, 13, [])])) (b_Scene (n + 4))) (b_Scene (n + 11))) _ E s (σ) τ H _ := hY
  refine lv_aload_n hx hb dX9_init_57 rfl (lv_at hl 0 rfl) ?_
  refine lv_aload_n hx hb dX9_init_58 rfl (lv_at hl 2 rfl) ?_
  refine y_putF S hK hA hY hn 0 rfl cl_10 1 (Nat.le_of_ble_eq_true rfl) (Nat.le_of_ble_eq_true rfl) mw_417 rfl ⟨rfl, hnm, rfl⟩ (ty := .object "DownTheGutter$Current") (j := a2) (by decide +kernel) rfl rfl dX9_init_59 (fun H locs hY => ?_)
  have hY : gx_Y tb (@HAppend.hAppend (List gD) (List gD) (List gD) _ (@HAppend.hAppend (List gD) (List gD) (List gD) _ (@HAppend.hAppend (List gD) (List gD) (List gD) _ (@HAppend.hAppend (List gD) (List gD) (List gD) _ (@HAppend.hAppend (List gD) (List gD) (List gD) _ ([.inl (10, [some (some a1), some (some a2), some (some (n + 1)), some (some (n + 2)), some (some (n + 3)), none, none, some (some (n + 4)), some (some (n + 11))])]) ([.inr (0, 4096, [])])) ([.inr (2, 4096, [])])) ([.inr (0, 13, [])])) (b_Scene (n + 4))) (b_Scene (n + 11))) _ E s (σ) τ H _ := hY
  have hY : gx_Y tb (b_Trials n a1 a2) _ E s (σ) τ H _ := hY
  exact y_r S hr hlk hY dX9_init_62
def b_X (n : Nat) : List gD := (.inl (12, [some (some (n + 1)), some (some (n + 3)), some (some (n + 9)), some (some (n + 15)), some (some (n + 17)), some (some (n + 21)), some (some (n + 25)), some (some (n + 30)), some (some (n + 37)), some (some (n + 44)), some (some (n + 151)), none, some (some (n + 152)), some (some (n + 156)), some (some (n + 158)), some (some (n + 160))])) :: (@HAppend.hAppend (List gD) (List gD) (List gD) _ (b_Signs (n + 1)) (@HAppend.hAppend (List gD) (List gD) (List gD) _ (b_Town (n + 3)) (@HAppend.hAppend (List gD) (List gD) (List gD) _ (b_Town (n + 9)) (@HAppend.hAppend (List gD) (List gD) (List gD) _ (b_Water (n + 15)) (@HAppend.hAppend (List gD) (List gD) (List gD) _ (b_Rule (n + 17)) (@HAppend.hAppend (List gD) (List gD) (List gD) _ (b_Rule (n + 21)) (@HAppend.hAppend (List gD) (List gD) (List gD) _ (b_Diary (n + 25)) (@HAppend.hAppend (List gD) (List gD) (List gD) _ (b_Scene (n + 30)) (@HAppend.hAppend (List gD) (List gD) (List gD) _ (b_Scene (n + 37)) (@HAppend.hAppend (List gD) (List gD) (List gD) _ (b_Past (n + 44)) ((.inr (3, 3, [some (n + 178), some (n + 185), some (n + 192)])) :: (@HAppend.hAppend (List gD) (List gD) (List gD) _ (b_Corks (n + 152)) (@HAppend.hAppend (List gD) (List gD) (List gD) _ (b_Row (n + 156)) (@HAppend.hAppend (List gD) (List gD) (List gD) _ (b_Current (n + 158) (n + 3) (n + 15) (n + 17)) (@HAppend.hAppend (List gD) (List gD) (List gD) _ (b_Trials (n + 160) (n + 3) (n + 158)) (@HAppend.hAppend (List gD) (List gD) (List gD) _ (b_Scene (n + 178)) (@HAppend.hAppend (List gD) (List gD) (List gD) _ (b_Scene (n + 185)) (b_Scene (n + 192)))))))))))))))))))
set_option maxHeartbeats 4000000 in
set_option maxRecDepth 100000 in
theorem k_X (l : Launch) {E : gE} (tb : List gD) (n : Nat) (hn : tb.length = n) (σ : gI) (τ : gJ) (h0 : ∀ c k : Nat, n ≤ c → σ c k = 0) (t0 : ∀ c k : Nat, n ≤ c → τ c k = 0) : gx_Mc l yX11_init cX11_init 2 3 198 9936 (tb ++ [.inl (12, [some none, some none, some none, some none, some none, some none, some none, some none, some none, some none, some none, none, some none, some none, some none, some none])]) (tb ++ b_X n) E σ (up2 (up2 (up2 (up2 (up2 (up2 (σ) (n + 3) 8 1) (n + 9) 8 1) (n + 17) 3 1) (n + 17) 9 1) (n + 21) 3 1) (n + 21) 9 1) τ [.ref (E.2.2 + (n + 0))] := by
  refine y_b (by decide +kernel) (Nat.le_of_ble_eq_true rfl) ?_
  intro P9 e9 s m9 below meth C9 S hr hlk hnm hK hN hA hY ls hl
  have S : CallFix P9 m9 C9 cX11_init 2 s _ gx_G RX11 := S
  have hx := S.1
  have hb := S.2.1
  have hl : lv_has ls 2 [(0, .ref (E.2.2 + (n + 0)))] := hl
  obtain ⟨M_0, e_0, l_0, hY⟩ := y_beg1 (.inl (12, [some none, some none, some none, some none, some none, some none, some none, some none, some none, some none, some none, none, some none, some none, some none, some none])) hY
  refine lv_aload_n hx hb dX11_init_0 rfl (lv_at hl 0 rfl) ?_
  refine gx_obj S mw_120 mw_121 mw_122 hl.1 dX11_init_1 ⟨Nat.le_of_ble_eq_true rfl, Nat.le_of_ble_eq_true rfl⟩ ?_
  refine lv_aload_n hx hb dX11_init_4 rfl (lv_at hl 0 rfl) ?_
  refine y_new S hK hY hn 1 (y_l1 l_0) cl_8 tyX7 tyX7_ok [some none, none, none] (fun j hj => by rcases (show j = 0 ∨ j = 1 ∨ j = 2 by omega) with rfl | rfl | rfl <;> rfl) (fun c9 k9 h9 => h0 c9 k9 (by omega)) mwc_X11_9 mw_124 mw_90 ⟨Nat.le_of_ble_eq_true rfl, Nat.le_of_ble_eq_true rfl⟩ dX11_init_5 (fun H hY => ?_)
  refine lv_dup hx hb dX11_init_8 rfl ?_
  refine y_cN (K := 1) (As := []) (rest := [.ref (E.2.2 + (n + 1)), .ref (E.2.2 + (n + 0))]) S hK hN hA hY hn (y_l1 l_0) (k_Signs l (E := E) _ (n + 1) (y_ln hn (y_l1 l_0)) (σ) τ  (fun c9 k9 h9 => h0 c9 k9 (by omega)) (fun c9 k9 h9 => t0 c9 k9 (by omega))) cw_X11_11 ⟨Nat.le_of_ble_eq_true rfl, Nat.le_of_ble_eq_true rfl⟩ rfl hl.1 rfl (Nat.le_of_ble_eq_true rfl) ⟨Nat.le_of_ble_eq_true rfl, Nat.le_of_ble_eq_true rfl⟩ dX11_init_9 (fun H locs hY => ?_)
  refine y_putF S hK hA hY hn 0 rfl cl_12 0 (Nat.le_of_ble_eq_true rfl) (Nat.le_of_ble_eq_true rfl) mw_447 rfl ⟨rfl, hnm, rfl⟩ (ty := .object "DownTheGutter$Signs") (j := (n + 1)) (by decide +kernel) rfl rfl dX11_init_12 (fun H locs hY => ?_)
  have hY : gx_Y tb ((.inl (12, [some (some (n + 1)), some none, some none, some none, some none, some none, some none, some none, some none, some none, some none, none, some none, some none, some none, some none])) :: (M_0 ++ (b_Signs (n + 1)))) _ E s (σ) τ H _ := hY
  obtain ⟨M_1, e_1, l_1, hY⟩ := y_abs1 l_0 (j := 2) rfl hY
  have l_1 : M_1.length = 2 := l_1
  refine lv_aload_n hx hb dX11_init_15 rfl (lv_at hl 0 rfl) ?_
  refine y_new S hK hY hn 3 (y_l1 l_1) cl_9 tyX8 tyX8_ok [some none, some none, some none, some none, some none, none, none, none, none] (fun j hj => by rcases (show j = 0 ∨ j = 1 ∨ j = 2 ∨ j = 3 ∨ j = 4 ∨ j = 5 ∨ j = 6 ∨ j = 7 ∨ j = 8 by omega) with rfl | rfl | rfl | rfl | rfl | rfl | rfl | rfl | rfl <;> rfl) (fun c9 k9 h9 => h0 c9 k9 (by omega)) mwc_X11_16 mw_143 mw_91 ⟨Nat.le_of_ble_eq_true rfl, Nat.le_of_ble_eq_true rfl⟩ dX11_init_16 (fun H hY => ?_)
  refine lv_dup hx hb dX11_init_19 rfl ?_
  refine y_cN (K := 3) (As := []) (rest := [.ref (E.2.2 + (n + 3)), .ref (E.2.2 + (n + 0))]) S hK hN hA hY hn (y_l1 l_1) (k_Town l (E := E) _ (n + 3) (y_ln hn (y_l1 l_1)) (σ) τ  (fun c9 k9 h9 => h0 c9 k9 (by omega)) (fun c9 k9 h9 => t0 c9 k9 (by omega))) cw_X11_18 ⟨Nat.le_of_ble_eq_true rfl, Nat.le_of_ble_eq_true rfl⟩ rfl hl.1 rfl (Nat.le_of_ble_eq_true rfl) ⟨Nat.le_of_ble_eq_true rfl, Nat.le_of_ble_eq_true rfl⟩ dX11_init_20 (fun H locs hY => ?_)
  refine y_putF S hK hA hY hn 0 rfl cl_12 1 (Nat.le_of_ble_eq_true rfl) (Nat.le_of_ble_eq_true rfl) mw_448 rfl ⟨rfl, hnm, rfl⟩ (ty := .object "DownTheGutter$Town") (j := (n + 3)) (by decide +kernel) rfl rfl dX11_init_23 (fun H locs hY => ?_)
  have hY : gx_Y tb ((.inl (12, [some (some (n + 1)), some (some (n + 3)), some none, some none, some none, some none, some none, some none, some none, some none, some none, none, some none, some none, some none, some none])) :: (M_1 ++ (b_Town (n + 3)))) _ E s (up2 (σ) (n + 3) 8 1) τ H _ := hY
  obtain ⟨M_2, e_2, l_2, hY⟩ := y_abs1 l_1 (j := 6) rfl hY
  have l_2 : M_2.length = 8 := l_2
  refine lv_aload_n hx hb dX11_init_26 rfl (lv_at hl 0 rfl) ?_
  refine y_new S hK hY hn 9 (y_l1 l_2) cl_9 tyX8 tyX8_ok [some none, some none, some none, some none, some none, none, none, none, none] (fun j hj => by rcases (show j = 0 ∨ j = 1 ∨ j = 2 ∨ j = 3 ∨ j = 4 ∨ j = 5 ∨ j = 6 ∨ j = 7 ∨ j = 8 by omega) with rfl | rfl | rfl | rfl | rfl | rfl | rfl | rfl | rfl <;> rfl) (fun c9 k9 h9 => (up2_hi (Nat.lt_succ_self _) (by omega)).trans (h0 c9 k9 (by omega))) mwc_X11_16 mw_143 mw_91 ⟨Nat.le_of_ble_eq_true rfl, Nat.le_of_ble_eq_true rfl⟩ dX11_init_27 (fun H hY => ?_)
  refine lv_dup hx hb dX11_init_30 rfl ?_
  refine y_cN (K := 9) (As := []) (rest := [.ref (E.2.2 + (n + 9)), .ref (E.2.2 + (n + 0))]) S hK hN hA hY hn (y_l1 l_2) (k_Town l (E := E) _ (n + 9) (y_ln hn (y_l1 l_2)) (up2 (σ) (n + 3) 8 1) τ  (fun c9 k9 h9 => (up2_hi (Nat.lt_succ_self _) (by omega)).trans (h0 c9 k9 (by omega))) (fun c9 k9 h9 => t0 c9 k9 (by omega))) cw_X11_18 ⟨Nat.le_of_ble_eq_true rfl, Nat.le_of_ble_eq_true rfl⟩ rfl hl.1 rfl (Nat.le_of_ble_eq_true rfl) ⟨Nat.le_of_ble_eq_true rfl, Nat.le_of_ble_eq_true rfl⟩ dX11_init_31 (fun H locs hY => ?_)
  refine y_putF S hK hA hY hn 0 rfl cl_12 2 (Nat.le_of_ble_eq_true rfl) (Nat.le_of_ble_eq_true rfl) mw_449 rfl ⟨rfl, hnm, rfl⟩ (ty := .object "DownTheGutter$Town") (j := (n + 9)) (by decide +kernel) rfl rfl dX11_init_34 (fun H locs hY => ?_)
  have hY : gx_Y tb ((.inl (12, [some (some (n + 1)), some (some (n + 3)), some (some (n + 9)), some none, some none, some none, some none, some none, some none, some none, some none, none, some none, some none, some none, some none])) :: (M_2 ++ (b_Town (n + 9)))) _ E s (up2 (up2 (σ) (n + 3) 8 1) (n + 9) 8 1) τ H _ := hY
  obtain ⟨M_3, e_3, l_3, hY⟩ := y_abs1 l_2 (j := 6) rfl hY
  have l_3 : M_3.length = 14 := l_3
  refine lv_aload_n hx hb dX11_init_37 rfl (lv_at hl 0 rfl) ?_
  refine y_new S hK hY hn 15 (y_l1 l_3) cl_11 tyX10 tyX10_ok [some none, none] (fun j hj => by rcases (show j = 0 ∨ j = 1 by omega) with rfl | rfl <;> rfl) (fun c9 k9 h9 => (up2_hi (Nat.lt_succ_self _) (by omega)).trans ((up2_hi (Nat.lt_succ_self _) (by omega)).trans (h0 c9 k9 (by omega)))) mwc_X11_26 mw_182 mw_92 ⟨Nat.le_of_ble_eq_true rfl, Nat.le_of_ble_eq_true rfl⟩ dX11_init_38 (fun H hY => ?_)
  refine lv_dup hx hb dX11_init_41 rfl ?_
  refine y_cN (K := 15) (As := []) (rest := [.ref (E.2.2 + (n + 15)), .ref (E.2.2 + (n + 0))]) S hK hN hA hY hn (y_l1 l_3) (k_Water l (E := E) _ (n + 15) (y_ln hn (y_l1 l_3)) (up2 (up2 (σ) (n + 3) 8 1) (n + 9) 8 1) τ  (fun c9 k9 h9 => (up2_hi (Nat.lt_succ_self _) (by omega)).trans ((up2_hi (Nat.lt_succ_self _) (by omega)).trans (h0 c9 k9 (by omega)))) (fun c9 k9 h9 => t0 c9 k9 (by omega))) cw_X11_28 ⟨Nat.le_of_ble_eq_true rfl, Nat.le_of_ble_eq_true rfl⟩ rfl hl.1 rfl (Nat.le_of_ble_eq_true rfl) ⟨Nat.le_of_ble_eq_true rfl, Nat.le_of_ble_eq_true rfl⟩ dX11_init_42 (fun H locs hY => ?_)
  refine y_putF S hK hA hY hn 0 rfl cl_12 3 (Nat.le_of_ble_eq_true rfl) (Nat.le_of_ble_eq_true rfl) mw_450 rfl ⟨rfl, hnm, rfl⟩ (ty := .object "DownTheGutter$Water") (j := (n + 15)) (by decide +kernel) rfl rfl dX11_init_45 (fun H locs hY => ?_)
  have hY : gx_Y tb ((.inl (12, [some (some (n + 1)), some (some (n + 3)), some (some (n + 9)), some (some (n + 15)), some none, some none, some none, some none, some none, some none, some none, none, some none, some none, some none, some none])) :: (M_3 ++ (b_Water (n + 15)))) _ E s (up2 (up2 (σ) (n + 3) 8 1) (n + 9) 8 1) τ H _ := hY
  obtain ⟨M_4, e_4, l_4, hY⟩ := y_abs1 l_3 (j := 2) rfl hY
  have l_4 : M_4.length = 16 := l_4
  refine lv_aload_n hx hb dX11_init_48 rfl (lv_at hl 0 rfl) ?_
  refine y_new S hK hY hn 17 (y_l1 l_4) cl_6 tyX5 tyX5_ok [some none, some none, some none, none, none, none, none, none, none, none, none] (fun j hj => by rcases (show j = 0 ∨ j = 1 ∨ j = 2 ∨ j = 3 ∨ j = 4 ∨ j = 5 ∨ j = 6 ∨ j = 7 ∨ j = 8 ∨ j = 9 ∨ j = 10 by omega) with rfl | rfl | rfl | rfl | rfl | rfl | rfl | rfl | rfl | rfl | rfl <;> rfl) (fun c9 k9 h9 => (up2_hi (Nat.lt_succ_self _) (by omega)).trans ((up2_hi (Nat.lt_succ_self _) (by omega)).trans (h0 c9 k9 (by omega)))) mwc_X11_33 mw_195 mw_93 ⟨Nat.le_of_ble_eq_true rfl, Nat.le_of_ble_eq_true rfl⟩ dX11_init_49 (fun H hY => ?_)
  refine lv_dup hx hb dX11_init_52 rfl ?_
  refine y_cI (K := 17) (As := []) (rest := [.ref (E.2.2 + (n + 17)), .ref (E.2.2 + (n + 0))]) S hK hN hA hY hn (y_l1 l_4) (k_Rule l (E := E) _ (n + 17) (y_ln hn (y_l1 l_4)) (up2 (up2 (σ) (n + 3) 8 1) (n + 9) 8 1) τ  (fun c9 k9 h9 => (up2_hi (Nat.lt_succ_self _) (by omega)).trans ((up2_hi (Nat.lt_succ_self _) (by omega)).trans (h0 c9 k9 (by omega)))) (fun c9 k9 h9 => t0 c9 k9 (by omega))) cw_X11_35 ⟨Nat.le_of_ble_eq_true rfl, Nat.le_of_ble_eq_true rfl⟩ rfl hl.1 rfl (Nat.le_of_ble_eq_true rfl) ⟨Nat.le_of_ble_eq_true rfl, Nat.le_of_ble_eq_true rfl⟩ dX11_init_53 (fun H locs hY => ?_)
  refine y_putF S hK hA hY hn 0 rfl cl_12 4 (Nat.le_of_ble_eq_true rfl) (Nat.le_of_ble_eq_true rfl) mw_451 rfl ⟨rfl, hnm, rfl⟩ (ty := .object "DownTheGutter$Rule") (j := (n + 17)) (by decide +kernel) rfl rfl dX11_init_56 (fun H locs hY => ?_)
  have hY : gx_Y tb ((.inl (12, [some (some (n + 1)), some (some (n + 3)), some (some (n + 9)), some (some (n + 15)), some (some (n + 17)), some none, some none, some none, some none, some none, some none, none, some none, some none, some none, some none])) :: (M_4 ++ (b_Rule (n + 17)))) _ E s (up2 (up2 (up2 (up2 (σ) (n + 3) 8 1) (n + 9) 8 1) (n + 17) 3 1) (n + 17) 9 1) τ H _ := hY
  obtain ⟨M_5, e_5, l_5, hY⟩ := y_abs1 l_4 (j := 4) rfl hY
  have l_5 : M_5.length = 20 := l_5
  refine lv_aload_n hx hb dX11_init_59 rfl (lv_at hl 0 rfl) ?_
  refine y_new S hK hY hn 21 (y_l1 l_5) cl_6 tyX5 tyX5_ok [some none, some none, some none, none, none, none, none, none, none, none, none] (fun j hj => by rcases (show j = 0 ∨ j = 1 ∨ j = 2 ∨ j = 3 ∨ j = 4 ∨ j = 5 ∨ j = 6 ∨ j = 7 ∨ j = 8 ∨ j = 9 ∨ j = 10 by omega) with rfl | rfl | rfl | rfl | rfl | rfl | rfl | rfl | rfl | rfl | rfl <;> rfl) (fun c9 k9 h9 => (up2_hi (Nat.lt_succ_self _) (by omega)).trans ((up2_hi (Nat.lt_succ_self _) (by omega)).trans ((up2_hi (Nat.lt_succ_self _) (by omega)).trans ((up2_hi (Nat.lt_succ_self _) (by omega)).trans (h0 c9 k9 (by omega)))))) mwc_X11_33 mw_195 mw_93 ⟨Nat.le_of_ble_eq_true rfl, Nat.le_of_ble_eq_true rfl⟩ dX11_init_60 (fun H hY => ?_)
  refine lv_dup hx hb dX11_init_63 rfl ?_
  refine y_cI (K := 21) (As := []) (rest := [.ref (E.2.2 + (n + 21)), .ref (E.2.2 + (n + 0))]) S hK hN hA hY hn (y_l1 l_5) (k_Rule l (E := E) _ (n + 21) (y_ln hn (y_l1 l_5)) (up2 (up2 (up2 (up2 (σ) (n + 3) 8 1) (n + 9) 8 1) (n + 17) 3 1) (n + 17) 9 1) τ  (fun c9 k9 h9 => (up2_hi (Nat.lt_succ_self _) (by omega)).trans ((up2_hi (Nat.lt_succ_self _) (by omega)).trans ((up2_hi (Nat.lt_succ_self _) (by omega)).trans ((up2_hi (Nat.lt_succ_self _) (by omega)).trans (h0 c9 k9 (by omega)))))) (fun c9 k9 h9 => t0 c9 k9 (by omega))) cw_X11_35 ⟨Nat.le_of_ble_eq_true rfl, Nat.le_of_ble_eq_true rfl⟩ rfl hl.1 rfl (Nat.le_of_ble_eq_true rfl) ⟨Nat.le_of_ble_eq_true rfl, Nat.le_of_ble_eq_true rfl⟩ dX11_init_64 (fun H locs hY => ?_)
  refine y_putF S hK hA hY hn 0 rfl cl_12 5 (Nat.le_of_ble_eq_true rfl) (Nat.le_of_ble_eq_true rfl) mw_452 rfl ⟨rfl, hnm, rfl⟩ (ty := .object "DownTheGutter$Rule") (j := (n + 21)) (by decide +kernel) rfl rfl dX11_init_67 (fun H locs hY => ?_)
  have hY : gx_Y tb ((.inl (12, [some (some (n + 1)), some (some (n + 3)), some (some (n + 9)), some (some (n + 15)), some (some (n + 17)), some (some (n + 21)), some none, some none, some none, some none, some none, none, some none, some none, some none, some none])) :: (M_5 ++ (b_Rule (n + 21)))) _ E s (up2 (up2 (up2 (up2 (up2 (up2 (σ) (n + 3) 8 1) (n + 9) 8 1) (n + 17) 3 1) (n + 17) 9 1) (n + 21) 3 1) (n + 21) 9 1) τ H _ := hY
  obtain ⟨M_6, e_6, l_6, hY⟩ := y_abs1 l_5 (j := 4) rfl hY
  have l_6 : M_6.length = 24 := l_6
  refine lv_aload_n hx hb dX11_init_70 rfl (lv_at hl 0 rfl) ?_
  refine y_new S hK hY hn 25 (y_l1 l_6) cl_3 tyX2 tyX2_ok [some none, some none, some none, some none, none] (fun j hj => by rcases (show j = 0 ∨ j = 1 ∨ j = 2 ∨ j = 3 ∨ j = 4 by omega) with rfl | rfl | rfl | rfl | rfl <;> rfl) (fun c9 k9 h9 => (up2_hi (Nat.lt_succ_self _) (by omega)).trans ((up2_hi (Nat.lt_succ_self _) (by omega)).trans ((up2_hi (Nat.lt_succ_self _) (by omega)).trans ((up2_hi (Nat.lt_succ_self _) (by omega)).trans ((up2_hi (Nat.lt_succ_self _) (by omega)).trans ((up2_hi (Nat.lt_succ_self _) (by omega)).trans (h0 c9 k9 (by omega)))))))) mwc_X11_43 mw_237 mw_94 ⟨Nat.le_of_ble_eq_true rfl, Nat.le_of_ble_eq_true rfl⟩ dX11_init_71 (fun H hY => ?_)
  refine lv_dup hx hb dX11_init_74 rfl ?_
  refine y_cN (K := 25) (As := []) (rest := [.ref (E.2.2 + (n + 25)), .ref (E.2.2 + (n + 0))]) S hK hN hA hY hn (y_l1 l_6) (k_Diary l (E := E) _ (n + 25) (y_ln hn (y_l1 l_6)) (up2 (up2 (up2 (up2 (up2 (up2 (σ) (n + 3) 8 1) (n + 9) 8 1) (n + 17) 3 1) (n + 17) 9 1) (n + 21) 3 1) (n + 21) 9 1) τ  (fun c9 k9 h9 => (up2_hi (Nat.lt_succ_self _) (by omega)).trans ((up2_hi (Nat.lt_succ_self _) (by omega)).trans ((up2_hi (Nat.lt_succ_self _) (by omega)).trans ((up2_hi (Nat.lt_succ_self _) (by omega)).trans ((up2_hi (Nat.lt_succ_self _) (by omega)).trans ((up2_hi (Nat.lt_succ_self _) (by omega)).trans (h0 c9 k9 (by omega)))))))) (fun c9 k9 h9 => t0 c9 k9 (by omega))) cw_X11_45 ⟨Nat.le_of_ble_eq_true rfl, Nat.le_of_ble_eq_true rfl⟩ rfl hl.1 rfl (Nat.le_of_ble_eq_true rfl) ⟨Nat.le_of_ble_eq_true rfl, Nat.le_of_ble_eq_true rfl⟩ dX11_init_75 (fun H locs hY => ?_)
  refine y_putF S hK hA hY hn 0 rfl cl_12 6 (Nat.le_of_ble_eq_true rfl) (Nat.le_of_ble_eq_true rfl) mw_453 rfl ⟨rfl, hnm, rfl⟩ (ty := .object "DownTheGutter$Diary") (j := (n + 25)) (by decide +kernel) rfl rfl dX11_init_78 (fun H locs hY => ?_)
  have hY : gx_Y tb ((.inl (12, [some (some (n + 1)), some (some (n + 3)), some (some (n + 9)), some (some (n + 15)), some (some (n + 17)), some (some (n + 21)), some (some (n + 25)), some none, some none, some none, some none, none, some none, some none, some none, some none])) :: (M_6 ++ (b_Diary (n + 25)))) _ E s (up2 (up2 (up2 (up2 (up2 (up2 (σ) (n + 3) 8 1) (n + 9) 8 1) (n + 17) 3 1) (n + 17) 9 1) (n + 21) 3 1) (n + 21) 9 1) τ H _ := hY
  obtain ⟨M_7, e_7, l_7, hY⟩ := y_abs1 l_6 (j := 5) rfl hY
  have l_7 : M_7.length = 29 := l_7
  refine lv_aload_n hx hb dX11_init_81 rfl (lv_at hl 0 rfl) ?_
  refine y_new S hK hY hn 30 (y_l1 l_7) cl_7 tyX6 tyX6_ok [some none, some none, some none, some none, some none, some none, none, none, none, none, none] (fun j hj => by rcases (show j = 0 ∨ j = 1 ∨ j = 2 ∨ j = 3 ∨ j = 4 ∨ j = 5 ∨ j = 6 ∨ j = 7 ∨ j = 8 ∨ j = 9 ∨ j = 10 by omega) with rfl | rfl | rfl | rfl | rfl | rfl | rfl | rfl | rfl | rfl | rfl <;> rfl) (fun c9 k9 h9 => (up2_hi (Nat.lt_succ_self _) (by omega)).trans ((up2_hi (Nat.lt_succ_self _) (by omega)).trans ((up2_hi (Nat.lt_succ_self _) (by omega)).trans ((up2_hi (Nat.lt_succ_self _) (by omega)).trans ((up2_hi (Nat.lt_succ_self _) (by omega)).trans ((up2_hi (Nat.lt_succ_self _) (by omega)).trans (h0 c9 k9 (by omega)))))))) mwc_X11_50 mw_259 mw_95 ⟨Nat.le_of_ble_eq_true rfl, Nat.le_of_ble_eq_true rfl⟩ dX11_init_82 (fun H hY => ?_)
  refine lv_dup hx hb dX11_init_85 rfl ?_
  refine y_cN (K := 30) (As := []) (rest := [.ref (E.2.2 + (n + 30)), .ref (E.2.2 + (n + 0))]) S hK hN hA hY hn (y_l1 l_7) (k_Scene l (E := E) _ (n + 30) (y_ln hn (y_l1 l_7)) (up2 (up2 (up2 (up2 (up2 (up2 (σ) (n + 3) 8 1) (n + 9) 8 1) (n + 17) 3 1) (n + 17) 9 1) (n + 21) 3 1) (n + 21) 9 1) τ  (fun c9 k9 h9 => (up2_hi (Nat.lt_succ_self _) (by omega)).trans ((up2_hi (Nat.lt_succ_self _) (by omega)).trans ((up2_hi (Nat.lt_succ_self _) (by omega)).trans ((up2_hi (Nat.lt_succ_self _) (by omega)).trans ((up2_hi (Nat.lt_succ_self _) (by omega)).trans ((up2_hi (Nat.lt_succ_self _) (by omega)).trans (h0 c9 k9 (by omega)))))))) (fun c9 k9 h9 => t0 c9 k9 (by omega))) cw_X11_52 ⟨Nat.le_of_ble_eq_true rfl, Nat.le_of_ble_eq_true rfl⟩ rfl hl.1 rfl (Nat.le_of_ble_eq_true rfl) ⟨Nat.le_of_ble_eq_true rfl, Nat.le_of_ble_eq_true rfl⟩ dX11_init_86 (fun H locs hY => ?_)
  refine y_putF S hK hA hY hn 0 rfl cl_12 7 (Nat.le_of_ble_eq_true rfl) (Nat.le_of_ble_eq_true rfl) mw_454 rfl ⟨rfl, hnm, rfl⟩ (ty := .object "DownTheGutter$Scene") (j := (n + 30)) (by decide +kernel) rfl rfl dX11_init_89 (fun H locs hY => ?_)
  have hY : gx_Y tb ((.inl (12, [some (some (n + 1)), some (some (n + 3)), some (some (n + 9)), some (some (n + 15)), some (some (n + 17)), some (some (n + 21)), some (some (n + 25)), some (some (n + 30)), some none, some none, some none, none, some none, some none, some none, some none])) :: (M_7 ++ (b_Scene (n + 30)))) _ E s (up2 (up2 (up2 (up2 (up2 (up2 (σ) (n + 3) 8 1) (n + 9) 8 1) (n + 17) 3 1) (n + 17) 9 1) (n + 21) 3 1) (n + 21) 9 1) τ H _ := hY
  obtain ⟨M_8, e_8, l_8, hY⟩ := y_abs1 l_7 (j := 7) rfl hY
  have l_8 : M_8.length = 36 := l_8
  refine lv_aload_n hx hb dX11_init_92 rfl (lv_at hl 0 rfl) ?_
  refine y_new S hK hY hn 37 (y_l1 l_8) cl_7 tyX6 tyX6_ok [some none, some none, some none, some none, some none, some none, none, none, none, none, none] (fun j hj => by rcases (show j = 0 ∨ j = 1 ∨ j = 2 ∨ j = 3 ∨ j = 4 ∨ j = 5 ∨ j = 6 ∨ j = 7 ∨ j = 8 ∨ j = 9 ∨ j = 10 by omega) with rfl | rfl | rfl | rfl | rfl | rfl | rfl | rfl | rfl | rfl | rfl <;> rfl) (fun c9 k9 h9 => (up2_hi (Nat.lt_succ_self _) (by omega)).trans ((up2_hi (Nat.lt_succ_self _) (by omega)).trans ((up2_hi (Nat.lt_succ_self _) (by omega)).trans ((up2_hi (Nat.lt_succ_self _) (by omega)).trans ((up2_hi (Nat.lt_succ_self _) (by omega)).trans ((up2_hi (Nat.lt_succ_self _) (by omega)).trans (h0 c9 k9 (by omega)))))))) mwc_X11_50 mw_259 mw_95 ⟨Nat.le_of_ble_eq_true rfl, Nat.le_of_ble_eq_true rfl⟩ dX11_init_93 (fun H hY => ?_)
  refine lv_dup hx hb dX11_init_96 rfl ?_
  refine y_cN (K := 37) (As := []) (rest := [.ref (E.2.2 + (n + 37)), .ref (E.2.2 + (n + 0))]) S hK hN hA hY hn (y_l1 l_8) (k_Scene l (E := E) _ (n + 37) (y_ln hn (y_l1 l_8)) (up2 (up2 (up2 (up2 (up2 (up2 (σ) (n + 3) 8 1) (n + 9) 8 1) (n + 17) 3 1) (n + 17) 9 1) (n + 21) 3 1) (n + 21) 9 1) τ  (fun c9 k9 h9 => (up2_hi (Nat.lt_succ_self _) (by omega)).trans ((up2_hi (Nat.lt_succ_self _) (by omega)).trans ((up2_hi (Nat.lt_succ_self _) (by omega)).trans ((up2_hi (Nat.lt_succ_self _) (by omega)).trans ((up2_hi (Nat.lt_succ_self _) (by omega)).trans ((up2_hi (Nat.lt_succ_self _) (by omega)).trans (h0 c9 k9 (by omega)))))))) (fun c9 k9 h9 => t0 c9 k9 (by omega))) cw_X11_52 ⟨Nat.le_of_ble_eq_true rfl, Nat.le_of_ble_eq_true rfl⟩ rfl hl.1 rfl (Nat.le_of_ble_eq_true rfl) ⟨Nat.le_of_ble_eq_true rfl, Nat.le_of_ble_eq_true rfl⟩ dX11_init_97 (fun H locs hY => ?_)
  refine y_putF S hK hA hY hn 0 rfl cl_12 8 (Nat.le_of_ble_eq_true rfl) (Nat.le_of_ble_eq_true rfl) mw_455 rfl ⟨rfl, hnm, rfl⟩ (ty := .object "DownTheGutter$Scene") (j := (n + 37)) (by decide +kernel) rfl rfl dX11_init_100 (fun H locs hY => ?_)
  have hY : gx_Y tb ((.inl (12, [some (some (n + 1)), some (some (n + 3)), some (some (n + 9)), some (some (n + 15)), some (some (n + 17)), some (some (n + 21)), some (some (n + 25)), some (some (n + 30)), some (some (n + 37)), some none, some none, none, some none, some none, some none, some none])) :: (M_8 ++ (b_Scene (n + 37)))) _ E s (up2 (up2 (up2 (up2 (up2 (up2 (σ) (n + 3) 8 1) (n + 9) 8 1) (n + 17) 3 1) (n + 17) 9 1) (n + 21) 3 1) (n + 21) 9 1) τ H _ := hY
  obtain ⟨M_9, e_9, l_9, hY⟩ := y_abs1 l_8 (j := 7) rfl hY
  have l_9 : M_9.length = 43 := l_9
  refine lv_aload_n hx hb dX11_init_103 rfl (lv_at hl 0 rfl) ?_
  refine y_new S hK hY hn 44 (y_l1 l_9) cl_4 tyX3 tyX3_ok [some none, none, none] (fun j hj => by rcases (show j = 0 ∨ j = 1 ∨ j = 2 by omega) with rfl | rfl | rfl <;> rfl) (fun c9 k9 h9 => (up2_hi (Nat.lt_succ_self _) (by omega)).trans ((up2_hi (Nat.lt_succ_self _) (by omega)).trans ((up2_hi (Nat.lt_succ_self _) (by omega)).trans ((up2_hi (Nat.lt_succ_self _) (by omega)).trans ((up2_hi (Nat.lt_succ_self _) (by omega)).trans ((up2_hi (Nat.lt_succ_self _) (by omega)).trans (h0 c9 k9 (by omega)))))))) mwc_X11_60 mw_311 mw_96 ⟨Nat.le_of_ble_eq_true rfl, Nat.le_of_ble_eq_true rfl⟩ dX11_init_104 (fun H hY => ?_)
  refine lv_dup hx hb dX11_init_107 rfl ?_
  refine y_cI (K := 44) (As := []) (rest := [.ref (E.2.2 + (n + 44)), .ref (E.2.2 + (n + 0))]) S hK hN hA hY hn (y_l1 l_9) (k_Past l (E := E) _ (n + 44) (y_ln hn (y_l1 l_9)) (up2 (up2 (up2 (up2 (up2 (up2 (σ) (n + 3) 8 1) (n + 9) 8 1) (n + 17) 3 1) (n + 17) 9 1) (n + 21) 3 1) (n + 21) 9 1) τ  (fun c9 k9 h9 => (up2_hi (Nat.lt_succ_self _) (by omega)).trans ((up2_hi (Nat.lt_succ_self _) (by omega)).trans ((up2_hi (Nat.lt_succ_self _) (by omega)).trans ((up2_hi (Nat.lt_succ_self _) (by omega)).trans ((up2_hi (Nat.lt_succ_self _) (by omega)).trans ((up2_hi (Nat.lt_succ_self _) (by omega)).trans (h0 c9 k9 (by omega)))))))) (fun c9 k9 h9 => t0 c9 k9 (by omega))) cw_X11_62 ⟨Nat.le_of_ble_eq_true rfl, Nat.le_of_ble_eq_true rfl⟩ rfl hl.1 rfl (Nat.le_of_ble_eq_true rfl) ⟨Nat.le_of_ble_eq_true rfl, Nat.le_of_ble_eq_true rfl⟩ dX11_init_108 (fun H locs hY => ?_)
  refine y_putF S hK hA hY hn 0 rfl cl_12 9 (Nat.le_of_ble_eq_true rfl) (Nat.le_of_ble_eq_true rfl) mw_456 rfl ⟨rfl, hnm, rfl⟩ (ty := .object "DownTheGutter$Past") (j := (n + 44)) (by decide +kernel) rfl rfl dX11_init_111 (fun H locs hY => ?_)
  have hY : gx_Y tb ((.inl (12, [some (some (n + 1)), some (some (n + 3)), some (some (n + 9)), some (some (n + 15)), some (some (n + 17)), some (some (n + 21)), some (some (n + 25)), some (some (n + 30)), some (some (n + 37)), some (some (n + 44)), some none, none, some none, some none, some none, some none])) :: (M_9 ++ (b_Past (n + 44)))) _ E s (up2 (up2 (up2 (up2 (up2 (up2 (σ) (n + 3) 8 1) (n + 9) 8 1) (n + 17) 3 1) (n + 17) 9 1) (n + 21) 3 1) (n + 21) 9 1) τ H _ := hY
  obtain ⟨M_10, e_10, l_10, hY⟩ := y_abs1 l_9 (j := 107) rfl hY
  have l_10 : M_10.length = 150 := l_10
  refine lv_aload_n hx hb dX11_init_114 rfl (lv_at hl 0 rfl) ?_
  refine lv_iconst (v := 3) hx hb dX11_init_115 (by decide) ?_
  refine y_newS S hK hN hY hn 151 (y_l1 l_10) (N := 3) (by decide) (by decide) (by decide) mw_258 ⟨Nat.le_of_ble_eq_true rfl, Nat.le_of_ble_eq_true rfl⟩ dX11_init_116 (fun H hY => ?_)
  refine y_putF S hK hA hY hn 0 rfl cl_12 10 (Nat.le_of_ble_eq_true rfl) (Nat.le_of_ble_eq_true rfl) mw_457 rfl ⟨rfl, hnm, rfl⟩ (ty := .array (.object "DownTheGutter$Scene")) (j := (n + 151)) (by decide +kernel) rfl rfl dX11_init_119 (fun H locs hY => ?_)
  have hY : gx_Y tb ((.inl (12, [some (some (n + 1)), some (some (n + 3)), some (some (n + 9)), some (some (n + 15)), some (some (n + 17)), some (some (n + 21)), some (some (n + 25)), some (some (n + 30)), some (some (n + 37)), some (some (n + 44)), some (some (n + 151)), none, some none, some none, some none, some none])) :: (M_10 ++ [.inr (3, 3, [none, none, none])])) _ E s (up2 (up2 (up2 (up2 (up2 (up2 (σ) (n + 3) 8 1) (n + 9) 8 1) (n + 17) 3 1) (n + 17) 9 1) (n + 21) 3 1) (n + 21) 9 1) τ H _ := hY
  obtain ⟨M_11, e_11, l_11, hY⟩ := y_abs1 l_10 (j := 1) rfl hY
  have l_11 : M_11.length = 151 := l_11
  refine lv_aload_n hx hb dX11_init_122 rfl (lv_at hl 0 rfl) ?_
  refine y_new S hK hY hn 152 (y_l1 l_11) cl_1 tyX0 tyX0_ok [some none, some none, some none, none] (fun j hj => by rcases (show j = 0 ∨ j = 1 ∨ j = 2 ∨ j = 3 by omega) with rfl | rfl | rfl | rfl <;> rfl) (fun c9 k9 h9 => (up2_hi (Nat.lt_succ_self _) (by omega)).trans ((up2_hi (Nat.lt_succ_self _) (by omega)).trans ((up2_hi (Nat.lt_succ_self _) (by omega)).trans ((up2_hi (Nat.lt_succ_self _) (by omega)).trans ((up2_hi (Nat.lt_succ_self _) (by omega)).trans ((up2_hi (Nat.lt_succ_self _) (by omega)).trans (h0 c9 k9 (by omega)))))))) mwc_X11_71 mw_331 mw_97 ⟨Nat.le_of_ble_eq_true rfl, Nat.le_of_ble_eq_true rfl⟩ dX11_init_123 (fun H hY => ?_)
  refine lv_dup hx hb dX11_init_126 rfl ?_
  refine y_cN (K := 152) (As := []) (rest := [.ref (E.2.2 + (n + 152)), .ref (E.2.2 + (n + 0))]) S hK hN hA hY hn (y_l1 l_11) (k_Corks l (E := E) _ (n + 152) (y_ln hn (y_l1 l_11)) (up2 (up2 (up2 (up2 (up2 (up2 (σ) (n + 3) 8 1) (n + 9) 8 1) (n + 17) 3 1) (n + 17) 9 1) (n + 21) 3 1) (n + 21) 9 1) τ  (fun c9 k9 h9 => (up2_hi (Nat.lt_succ_self _) (by omega)).trans ((up2_hi (Nat.lt_succ_self _) (by omega)).trans ((up2_hi (Nat.lt_succ_self _) (by omega)).trans ((up2_hi (Nat.lt_succ_self _) (by omega)).trans ((up2_hi (Nat.lt_succ_self _) (by omega)).trans ((up2_hi (Nat.lt_succ_self _) (by omega)).trans (h0 c9 k9 (by omega)))))))) (fun c9 k9 h9 => t0 c9 k9 (by omega))) cw_X11_73 ⟨Nat.le_of_ble_eq_true rfl, Nat.le_of_ble_eq_true rfl⟩ rfl hl.1 rfl (Nat.le_of_ble_eq_true rfl) ⟨Nat.le_of_ble_eq_true rfl, Nat.le_of_ble_eq_true rfl⟩ dX11_init_127 (fun H locs hY => ?_)
  refine y_putF S hK hA hY hn 0 rfl cl_12 12 (Nat.le_of_ble_eq_true rfl) (Nat.le_of_ble_eq_true rfl) mw_459 rfl ⟨rfl, hnm, rfl⟩ (ty := .object "DownTheGutter$Corks") (j := (n + 152)) (by decide +kernel) rfl rfl dX11_init_130 (fun H locs hY => ?_)
  have hY : gx_Y tb ((.inl (12, [some (some (n + 1)), some (some (n + 3)), some (some (n + 9)), some (some (n + 15)), some (some (n + 17)), some (some (n + 21)), some (some (n + 25)), some (some (n + 30)), some (some (n + 37)), some (some (n + 44)), some (some (n + 151)), none, some (some (n + 152)), some none, some none, some none])) :: (M_11 ++ (b_Corks (n + 152)))) _ E s (up2 (up2 (up2 (up2 (up2 (up2 (σ) (n + 3) 8 1) (n + 9) 8 1) (n + 17) 3 1) (n + 17) 9 1) (n + 21) 3 1) (n + 21) 9 1) τ H _ := hY
  obtain ⟨M_12, e_12, l_12, hY⟩ := y_abs1 l_11 (j := 4) rfl hY
  have l_12 : M_12.length = 155 := l_12
  refine lv_aload_n hx hb dX11_init_133 rfl (lv_at hl 0 rfl) ?_
  refine y_new S hK hY hn 156 (y_l1 l_12) cl_5 tyX4 tyX4_ok [some none, none] (fun j hj => by rcases (show j = 0 ∨ j = 1 by omega) with rfl | rfl <;> rfl) (fun c9 k9 h9 => (up2_hi (Nat.lt_succ_self _) (by omega)).trans ((up2_hi (Nat.lt_succ_self _) (by omega)).trans ((up2_hi (Nat.lt_succ_self _) (by omega)).trans ((up2_hi (Nat.lt_succ_self _) (by omega)).trans ((up2_hi (Nat.lt_succ_self _) (by omega)).trans ((up2_hi (Nat.lt_succ_self _) (by omega)).trans (h0 c9 k9 (by omega)))))))) mwc_X11_78 mw_351 mw_98 ⟨Nat.le_of_ble_eq_true rfl, Nat.le_of_ble_eq_true rfl⟩ dX11_init_134 (fun H hY => ?_)
  refine lv_dup hx hb dX11_init_137 rfl ?_
  refine y_cN (K := 156) (As := []) (rest := [.ref (E.2.2 + (n + 156)), .ref (E.2.2 + (n + 0))]) S hK hN hA hY hn (y_l1 l_12) (k_Row l (E := E) _ (n + 156) (y_ln hn (y_l1 l_12)) (up2 (up2 (up2 (up2 (up2 (up2 (σ) (n + 3) 8 1) (n + 9) 8 1) (n + 17) 3 1) (n + 17) 9 1) (n + 21) 3 1) (n + 21) 9 1) τ  (fun c9 k9 h9 => (up2_hi (Nat.lt_succ_self _) (by omega)).trans ((up2_hi (Nat.lt_succ_self _) (by omega)).trans ((up2_hi (Nat.lt_succ_self _) (by omega)).trans ((up2_hi (Nat.lt_succ_self _) (by omega)).trans ((up2_hi (Nat.lt_succ_self _) (by omega)).trans ((up2_hi (Nat.lt_succ_self _) (by omega)).trans (h0 c9 k9 (by omega)))))))) (fun c9 k9 h9 => t0 c9 k9 (by omega))) cw_X11_80 ⟨Nat.le_of_ble_eq_true rfl, Nat.le_of_ble_eq_true rfl⟩ rfl hl.1 rfl (Nat.le_of_ble_eq_true rfl) ⟨Nat.le_of_ble_eq_true rfl, Nat.le_of_ble_eq_true rfl⟩ dX11_init_138 (fun H locs hY => ?_)
  refine y_putF S hK hA hY hn 0 rfl cl_12 13 (Nat.le_of_ble_eq_true rfl) (Nat.le_of_ble_eq_true rfl) mw_460 rfl ⟨rfl, hnm, rfl⟩ (ty := .object "DownTheGutter$Row") (j := (n + 156)) (by decide +kernel) rfl rfl dX11_init_141 (fun H locs hY => ?_)
  have hY : gx_Y tb ((.inl (12, [some (some (n + 1)), some (some (n + 3)), some (some (n + 9)), some (some (n + 15)), some (some (n + 17)), some (some (n + 21)), some (some (n + 25)), some (some (n + 30)), some (some (n + 37)), some (some (n + 44)), some (some (n + 151)), none, some (some (n + 152)), some (some (n + 156)), some none, some none])) :: (M_12 ++ (b_Row (n + 156)))) _ E s (up2 (up2 (up2 (up2 (up2 (up2 (σ) (n + 3) 8 1) (n + 9) 8 1) (n + 17) 3 1) (n + 17) 9 1) (n + 21) 3 1) (n + 21) 9 1) τ H _ := hY
  obtain ⟨M_13, e_13, l_13, hY⟩ := y_abs1 l_12 (j := 2) rfl hY
  have l_13 : M_13.length = 157 := l_13
  refine lv_aload_n hx hb dX11_init_144 rfl (lv_at hl 0 rfl) ?_
  refine y_new S hK hY hn 158 (y_l1 l_13) cl_2 tyX1 tyX1_ok [some none, some none, some none, some none, none, none, none, none, none, none] (fun j hj => by rcases (show j = 0 ∨ j = 1 ∨ j = 2 ∨ j = 3 ∨ j = 4 ∨ j = 5 ∨ j = 6 ∨ j = 7 ∨ j = 8 ∨ j = 9 by omega) with rfl | rfl | rfl | rfl | rfl | rfl | rfl | rfl | rfl | rfl <;> rfl) (fun c9 k9 h9 => (up2_hi (Nat.lt_succ_self _) (by omega)).trans ((up2_hi (Nat.lt_succ_self _) (by omega)).trans ((up2_hi (Nat.lt_succ_self _) (by omega)).trans ((up2_hi (Nat.lt_succ_self _) (by omega)).trans ((up2_hi (Nat.lt_succ_self _) (by omega)).trans ((up2_hi (Nat.lt_succ_self _) (by omega)).trans (h0 c9 k9 (by omega)))))))) mwc_X11_85 mw_366 mw_99 ⟨Nat.le_of_ble_eq_true rfl, Nat.le_of_ble_eq_true rfl⟩ dX11_init_145 (fun H hY => ?_)
  refine lv_dup hx hb dX11_init_148 rfl ?_
  refine lv_aload_n hx hb dX11_init_149 rfl (lv_at hl 0 rfl) ?_
  refine y_getr (j := (n + 3)) S hK hY hn 0 rfl cl_12 1 (by decide) rfl mw_448 rfl dX11_init_150 ?_
  refine lv_aload_n hx hb dX11_init_153 rfl (lv_at hl 0 rfl) ?_
  refine y_getr (j := (n + 15)) S hK hY hn 0 rfl cl_12 3 (by decide) rfl mw_450 rfl dX11_init_154 ?_
  refine lv_aload_n hx hb dX11_init_157 rfl (lv_at hl 0 rfl) ?_
  refine y_getr (j := (n + 17)) S hK hY hn 0 rfl cl_12 4 (by decide) rfl mw_451 rfl dX11_init_158 ?_
  refine y_cI (K := 158) (As := [.ref (E.2.2 + (n + 3)), .ref (E.2.2 + (n + 15)), .ref (E.2.2 + (n + 17))]) (rest := [.ref (E.2.2 + (n + 158)), .ref (E.2.2 + (n + 0))]) S hK hN hA hY hn (y_l1 l_13) (k_Current l (E := E) _ (n + 158) (y_ln hn (y_l1 l_13)) (up2 (up2 (up2 (up2 (up2 (up2 (σ) (n + 3) 8 1) (n + 9) 8 1) (n + 17) 3 1) (n + 17) 9 1) (n + 21) 3 1) (n + 21) 9 1) τ (n + 3) (n + 15) (n + 17) (fun c9 k9 h9 => (up2_hi (Nat.lt_succ_self _) (by omega)).trans ((up2_hi (Nat.lt_succ_self _) (by omega)).trans ((up2_hi (Nat.lt_succ_self _) (by omega)).trans ((up2_hi (Nat.lt_succ_self _) (by omega)).trans ((up2_hi (Nat.lt_succ_self _) (by omega)).trans ((up2_hi (Nat.lt_succ_self _) (by omega)).trans (h0 c9 k9 (by omega)))))))) (fun c9 k9 h9 => t0 c9 k9 (by omega))) cw_X11_87 ⟨Nat.le_of_ble_eq_true rfl, Nat.le_of_ble_eq_true rfl⟩ rfl hl.1 rfl (Nat.le_of_ble_eq_true rfl) ⟨Nat.le_of_ble_eq_true rfl, Nat.le_of_ble_eq_true rfl⟩ dX11_init_161 (fun H locs hY => ?_)
  refine y_putF S hK hA hY hn 0 rfl cl_12 14 (Nat.le_of_ble_eq_true rfl) (Nat.le_of_ble_eq_true rfl) mw_461 rfl ⟨rfl, hnm, rfl⟩ (ty := .object "DownTheGutter$Current") (j := (n + 158)) (by decide +kernel) rfl rfl dX11_init_164 (fun H locs hY => ?_)
  have hY : gx_Y tb ((.inl (12, [some (some (n + 1)), some (some (n + 3)), some (some (n + 9)), some (some (n + 15)), some (some (n + 17)), some (some (n + 21)), some (some (n + 25)), some (some (n + 30)), some (some (n + 37)), some (some (n + 44)), some (some (n + 151)), none, some (some (n + 152)), some (some (n + 156)), some (some (n + 158)), some none])) :: (M_13 ++ (b_Current (n + 158) (n + 3) (n + 15) (n + 17)))) _ E s (up2 (up2 (up2 (up2 (up2 (up2 (σ) (n + 3) 8 1) (n + 9) 8 1) (n + 17) 3 1) (n + 17) 9 1) (n + 21) 3 1) (n + 21) 9 1) τ H _ := hY
  obtain ⟨M_14, e_14, l_14, hY⟩ := y_abs1 l_13 (j := 2) rfl hY
  have l_14 : M_14.length = 159 := l_14
  refine lv_aload_n hx hb dX11_init_167 rfl (lv_at hl 0 rfl) ?_
  refine y_new S hK hY hn 160 (y_l1 l_14) cl_10 tyX9 tyX9_ok [some none, some none, some none, some none, some none, none, none, some none, some none] (fun j hj => by rcases (show j = 0 ∨ j = 1 ∨ j = 2 ∨ j = 3 ∨ j = 4 ∨ j = 5 ∨ j = 6 ∨ j = 7 ∨ j = 8 by omega) with rfl | rfl | rfl | rfl | rfl | rfl | rfl | rfl | rfl <;> rfl) (fun c9 k9 h9 => (up2_hi (Nat.lt_succ_self _) (by omega)).trans ((up2_hi (Nat.lt_succ_self _) (by omega)).trans ((up2_hi (Nat.lt_succ_self _) (by omega)).trans ((up2_hi (Nat.lt_succ_self _) (by omega)).trans ((up2_hi (Nat.lt_succ_self _) (by omega)).trans ((up2_hi (Nat.lt_succ_self _) (by omega)).trans (h0 c9 k9 (by omega)))))))) mwc_X11_94 mw_409 mw_100 ⟨Nat.le_of_ble_eq_true rfl, Nat.le_of_ble_eq_true rfl⟩ dX11_init_168 (fun H hY => ?_)
  refine lv_dup hx hb dX11_init_171 rfl ?_
  refine lv_aload_n hx hb dX11_init_172 rfl (lv_at hl 0 rfl) ?_
  refine y_getr (j := (n + 3)) S hK hY hn 0 rfl cl_12 1 (by decide) rfl mw_448 rfl dX11_init_173 ?_
  refine lv_aload_n hx hb dX11_init_176 rfl (lv_at hl 0 rfl) ?_
  refine y_getr (j := (n + 158)) S hK hY hn 0 rfl cl_12 14 (by decide) rfl mw_461 rfl dX11_init_177 ?_
  refine y_cI (K := 160) (As := [.ref (E.2.2 + (n + 3)), .ref (E.2.2 + (n + 158))]) (rest := [.ref (E.2.2 + (n + 160)), .ref (E.2.2 + (n + 0))]) S hK hN hA hY hn (y_l1 l_14) (k_Trials l (E := E) _ (n + 160) (y_ln hn (y_l1 l_14)) (up2 (up2 (up2 (up2 (up2 (up2 (σ) (n + 3) 8 1) (n + 9) 8 1) (n + 17) 3 1) (n + 17) 9 1) (n + 21) 3 1) (n + 21) 9 1) τ (n + 3) (n + 158) (fun c9 k9 h9 => (up2_hi (Nat.lt_succ_self _) (by omega)).trans ((up2_hi (Nat.lt_succ_self _) (by omega)).trans ((up2_hi (Nat.lt_succ_self _) (by omega)).trans ((up2_hi (Nat.lt_succ_self _) (by omega)).trans ((up2_hi (Nat.lt_succ_self _) (by omega)).trans ((up2_hi (Nat.lt_succ_self _) (by omega)).trans (h0 c9 k9 (by omega)))))))) (fun c9 k9 h9 => t0 c9 k9 (by omega))) cw_X11_96 ⟨Nat.le_of_ble_eq_true rfl, Nat.le_of_ble_eq_true rfl⟩ rfl hl.1 rfl (Nat.le_of_ble_eq_true rfl) ⟨Nat.le_of_ble_eq_true rfl, Nat.le_of_ble_eq_true rfl⟩ dX11_init_180 (fun H locs hY => ?_)
  refine y_putF S hK hA hY hn 0 rfl cl_12 15 (Nat.le_of_ble_eq_true rfl) (Nat.le_of_ble_eq_true rfl) mw_462 rfl ⟨rfl, hnm, rfl⟩ (ty := .object "DownTheGutter$Trials") (j := (n + 160)) (by decide +kernel) rfl rfl dX11_init_183 (fun H locs hY => ?_)
  have hY : gx_Y tb ((.inl (12, [some (some (n + 1)), some (some (n + 3)), some (some (n + 9)), some (some (n + 15)), some (some (n + 17)), some (some (n + 21)), some (some (n + 25)), some (some (n + 30)), some (some (n + 37)), some (some (n + 44)), some (some (n + 151)), none, some (some (n + 152)), some (some (n + 156)), some (some (n + 158)), some (some (n + 160))])) :: (M_14 ++ (b_Trials (n + 160) (n + 3) (n + 158)))) _ E s (up2 (up2 (up2 (up2 (up2 (up2 (σ) (n + 3) 8 1) (n + 9) 8 1) (n + 17) 3 1) (n + 17) 9 1) (n + 21) 3 1) (n + 21) 9 1) τ H _ := hY
  obtain ⟨M_15, e_15, l_15, hY⟩ := y_abs1 l_14 (j := 18) rfl hY
  have l_15 : M_15.length = 177 := l_15
  refine lv_iconst (v := 0) hx hb dX11_init_186 (by decide) ?_
  have q0 : M_15 = M_10 ++ ((.inr (3, 3, [none, none, none])) :: ((b_Corks (n + 152)) ++ ((b_Row (n + 156)) ++ ((b_Current (n + 158) (n + 3) (n + 15) (n + 17)) ++ (b_Trials (n + 160) (n + 3) (n + 158)))))) := by
    rw [e_15, e_14, e_13, e_12, e_11]
    simp only [List.append_assoc, List.nil_append, List.cons_append]
  rw [q0] at hY
  obtain ⟨B_0, f_0, m_0, hY⟩ := y_midB (j := 26) rfl hY
  refine lv_istore_n (lv' := [(1, .int 0), (0, .ref (E.2.2 + (n + 0)))]) hx hb dX11_init_187 rfl hl (by decide) rfl (fun ls hl => ?_)
  refine lv_iload_n hx hb dX11_init_188 rfl (lv_at hl 0 rfl) ?_
  refine lv_iconst (v := 3) hx hb dX11_init_189 (by decide) ?_
  refine lv_icmp_ge (tgt := 212) hx hb dX11_init_190 (by decide) (fun h => absurd h (by decide)) (fun _ => ?_)
  refine lv_aload_n hx hb dX11_init_193 rfl (lv_at hl 1 rfl) ?_
  refine y_getr (j := (n + 151)) S hK hY hn 0 rfl cl_12 10 (by decide) rfl mw_457 rfl dX11_init_194 ?_
  refine lv_iload_n hx hb dX11_init_197 rfl (lv_at hl 0 rfl) ?_
  refine y_new S hK hY hn 178 (y_l1 (y_lm l_10 m_0)) cl_7 tyX6 tyX6_ok [some none, some none, some none, some none, some none, some none, none, none, none, none, none] (fun j hj => by rcases (show j = 0 ∨ j = 1 ∨ j = 2 ∨ j = 3 ∨ j = 4 ∨ j = 5 ∨ j = 6 ∨ j = 7 ∨ j = 8 ∨ j = 9 ∨ j = 10 by omega) with rfl | rfl | rfl | rfl | rfl | rfl | rfl | rfl | rfl | rfl | rfl <;> rfl) (fun c9 k9 h9 => (up2_hi (Nat.lt_succ_self _) (by omega)).trans ((up2_hi (Nat.lt_succ_self _) (by omega)).trans ((up2_hi (Nat.lt_succ_self _) (by omega)).trans ((up2_hi (Nat.lt_succ_self _) (by omega)).trans ((up2_hi (Nat.lt_succ_self _) (by omega)).trans ((up2_hi (Nat.lt_succ_self _) (by omega)).trans (h0 c9 k9 (by omega)))))))) mwc_X11_50 mw_259 mw_95 ⟨Nat.le_of_ble_eq_true rfl, Nat.le_of_ble_eq_true rfl⟩ dX11_init_198 (fun H hY => ?_)
  refine lv_dup hx hb dX11_init_201 rfl ?_
  refine y_cN (K := 178) (As := []) (rest := [.ref (E.2.2 + (n + 178)), .int 0, .ref (E.2.2 + (n + 151))]) S hK hN hA hY hn (y_l1 (y_lm l_10 m_0)) (k_Scene l (E := E) _ (n + 178) (y_ln hn (y_l1 (y_lm l_10 m_0))) (up2 (up2 (up2 (up2 (up2 (up2 (σ) (n + 3) 8 1) (n + 9) 8 1) (n + 17) 3 1) (n + 17) 9 1) (n + 21) 3 1) (n + 21) 9 1) τ  (fun c9 k9 h9 => (up2_hi (Nat.lt_succ_self _) (by omega)).trans ((up2_hi (Nat.lt_succ_self _) (by omega)).trans ((up2_hi (Nat.lt_succ_self _) (by omega)).trans ((up2_hi (Nat.lt_succ_self _) (by omega)).trans ((up2_hi (Nat.lt_succ_self _) (by omega)).trans ((up2_hi (Nat.lt_succ_self _) (by omega)).trans (h0 c9 k9 (by omega)))))))) (fun c9 k9 h9 => t0 c9 k9 (by omega))) cw_X11_52 ⟨Nat.le_of_ble_eq_true rfl, Nat.le_of_ble_eq_true rfl⟩ rfl hl.1 rfl (Nat.le_of_ble_eq_true rfl) ⟨Nat.le_of_ble_eq_true rfl, Nat.le_of_ble_eq_true rfl⟩ dX11_init_202 (fun H locs hY => ?_)
  refine y_aast S hK hA hY hn 151 178 (y_getm l_10) (y_at (y_l1 (y_lm l_10 m_0)) rfl) 0 rfl (gx_in rfl (by decide) (by decide)) (Nat.le_of_ble_eq_true rfl) dX11_init_205 (fun H locs hY => ?_)
  have hY := y_cv (y_setm l_10) hY
  obtain ⟨B_1, f_1, m_1, hY⟩ := y_midA m_0 (j := 7) rfl hY
  have m_1 : B_1.length = 33 := m_1
  refine lv_iinc (v := 1) (lv' := [(1, .int 1), (0, .ref (E.2.2 + (n + 0)))]) hx hb dX11_init_206 hl (k := 0) rfl (by decide) (by decide) rfl (fun ls hl => ?_)
  refine lv_goto (tgt := 188) hx hb dX11_init_209 (by decide) ?_
  refine lv_iload_n hx hb dX11_init_188 rfl (lv_at hl 0 rfl) ?_
  refine lv_iconst (v := 3) hx hb dX11_init_189 (by decide) ?_
  refine lv_icmp_ge (tgt := 212) hx hb dX11_init_190 (by decide) (fun h => absurd h (by decide)) (fun _ => ?_)
  refine lv_aload_n hx hb dX11_init_193 rfl (lv_at hl 1 rfl) ?_
  refine y_getr (j := (n + 151)) S hK hY hn 0 rfl cl_12 10 (by decide) rfl mw_457 rfl dX11_init_194 ?_
  refine lv_iload_n hx hb dX11_init_197 rfl (lv_at hl 0 rfl) ?_
  refine y_new S hK hY hn 185 (y_l1 (y_lm l_10 m_1)) cl_7 tyX6 tyX6_ok [some none, some none, some none, some none, some none, some none, none, none, none, none, none] (fun j hj => by rcases (show j = 0 ∨ j = 1 ∨ j = 2 ∨ j = 3 ∨ j = 4 ∨ j = 5 ∨ j = 6 ∨ j = 7 ∨ j = 8 ∨ j = 9 ∨ j = 10 by omega) with rfl | rfl | rfl | rfl | rfl | rfl | rfl | rfl | rfl | rfl | rfl <;> rfl) (fun c9 k9 h9 => (up2_hi (Nat.lt_succ_self _) (by omega)).trans ((up2_hi (Nat.lt_succ_self _) (by omega)).trans ((up2_hi (Nat.lt_succ_self _) (by omega)).trans ((up2_hi (Nat.lt_succ_self _) (by omega)).trans ((up2_hi (Nat.lt_succ_self _) (by omega)).trans ((up2_hi (Nat.lt_succ_self _) (by omega)).trans (h0 c9 k9 (by omega)))))))) mwc_X11_50 mw_259 mw_95 ⟨Nat.le_of_ble_eq_true rfl, Nat.le_of_ble_eq_true rfl⟩ dX11_init_198 (fun H hY => ?_)
  refine lv_dup hx hb dX11_init_201 rfl ?_
  refine y_cN (K := 185) (As := []) (rest := [.ref (E.2.2 + (n + 185)), .int 1, .ref (E.2.2 + (n + 151))]) S hK hN hA hY hn (y_l1 (y_lm l_10 m_1)) (k_Scene l (E := E) _ (n + 185) (y_ln hn (y_l1 (y_lm l_10 m_1))) (up2 (up2 (up2 (up2 (up2 (up2 (σ) (n + 3) 8 1) (n + 9) 8 1) (n + 17) 3 1) (n + 17) 9 1) (n + 21) 3 1) (n + 21) 9 1) τ  (fun c9 k9 h9 => (up2_hi (Nat.lt_succ_self _) (by omega)).trans ((up2_hi (Nat.lt_succ_self _) (by omega)).trans ((up2_hi (Nat.lt_succ_self _) (by omega)).trans ((up2_hi (Nat.lt_succ_self _) (by omega)).trans ((up2_hi (Nat.lt_succ_self _) (by omega)).trans ((up2_hi (Nat.lt_succ_self _) (by omega)).trans (h0 c9 k9 (by omega)))))))) (fun c9 k9 h9 => t0 c9 k9 (by omega))) cw_X11_52 ⟨Nat.le_of_ble_eq_true rfl, Nat.le_of_ble_eq_true rfl⟩ rfl hl.1 rfl (Nat.le_of_ble_eq_true rfl) ⟨Nat.le_of_ble_eq_true rfl, Nat.le_of_ble_eq_true rfl⟩ dX11_init_202 (fun H locs hY => ?_)
  refine y_aast S hK hA hY hn 151 185 (y_getm l_10) (y_at (y_l1 (y_lm l_10 m_1)) rfl) 1 rfl (gx_in rfl (by decide) (by decide)) (Nat.le_of_ble_eq_true rfl) dX11_init_205 (fun H locs hY => ?_)
  have hY := y_cv (y_setm l_10) hY
  obtain ⟨B_2, f_2, m_2, hY⟩ := y_midA m_1 (j := 7) rfl hY
  have m_2 : B_2.length = 40 := m_2
  refine lv_iinc (v := 2) (lv' := [(1, .int 2), (0, .ref (E.2.2 + (n + 0)))]) hx hb dX11_init_206 hl (k := 0) rfl (by decide) (by decide) rfl (fun ls hl => ?_)
  refine lv_goto (tgt := 188) hx hb dX11_init_209 (by decide) ?_
  refine lv_iload_n hx hb dX11_init_188 rfl (lv_at hl 0 rfl) ?_
  refine lv_iconst (v := 3) hx hb dX11_init_189 (by decide) ?_
  refine lv_icmp_ge (tgt := 212) hx hb dX11_init_190 (by decide) (fun h => absurd h (by decide)) (fun _ => ?_)
  refine lv_aload_n hx hb dX11_init_193 rfl (lv_at hl 1 rfl) ?_
  refine y_getr (j := (n + 151)) S hK hY hn 0 rfl cl_12 10 (by decide) rfl mw_457 rfl dX11_init_194 ?_
  refine lv_iload_n hx hb dX11_init_197 rfl (lv_at hl 0 rfl) ?_
  refine y_new S hK hY hn 192 (y_l1 (y_lm l_10 m_2)) cl_7 tyX6 tyX6_ok [some none, some none, some none, some none, some none, some none, none, none, none, none, none] (fun j hj => by rcases (show j = 0 ∨ j = 1 ∨ j = 2 ∨ j = 3 ∨ j = 4 ∨ j = 5 ∨ j = 6 ∨ j = 7 ∨ j = 8 ∨ j = 9 ∨ j = 10 by omega) with rfl | rfl | rfl | rfl | rfl | rfl | rfl | rfl | rfl | rfl | rfl <;> rfl) (fun c9 k9 h9 => (up2_hi (Nat.lt_succ_self _) (by omega)).trans ((up2_hi (Nat.lt_succ_self _) (by omega)).trans ((up2_hi (Nat.lt_succ_self _) (by omega)).trans ((up2_hi (Nat.lt_succ_self _) (by omega)).trans ((up2_hi (Nat.lt_succ_self _) (by omega)).trans ((up2_hi (Nat.lt_succ_self _) (by omega)).trans (h0 c9 k9 (by omega)))))))) mwc_X11_50 mw_259 mw_95 ⟨Nat.le_of_ble_eq_true rfl, Nat.le_of_ble_eq_true rfl⟩ dX11_init_198 (fun H hY => ?_)
  refine lv_dup hx hb dX11_init_201 rfl ?_
  refine y_cN (K := 192) (As := []) (rest := [.ref (E.2.2 + (n + 192)), .int 2, .ref (E.2.2 + (n + 151))]) S hK hN hA hY hn (y_l1 (y_lm l_10 m_2)) (k_Scene l (E := E) _ (n + 192) (y_ln hn (y_l1 (y_lm l_10 m_2))) (up2 (up2 (up2 (up2 (up2 (up2 (σ) (n + 3) 8 1) (n + 9) 8 1) (n + 17) 3 1) (n + 17) 9 1) (n + 21) 3 1) (n + 21) 9 1) τ  (fun c9 k9 h9 => (up2_hi (Nat.lt_succ_self _) (by omega)).trans ((up2_hi (Nat.lt_succ_self _) (by omega)).trans ((up2_hi (Nat.lt_succ_self _) (by omega)).trans ((up2_hi (Nat.lt_succ_self _) (by omega)).trans ((up2_hi (Nat.lt_succ_self _) (by omega)).trans ((up2_hi (Nat.lt_succ_self _) (by omega)).trans (h0 c9 k9 (by omega)))))))) (fun c9 k9 h9 => t0 c9 k9 (by omega))) cw_X11_52 ⟨Nat.le_of_ble_eq_true rfl, Nat.le_of_ble_eq_true rfl⟩ rfl hl.1 rfl (Nat.le_of_ble_eq_true rfl) ⟨Nat.le_of_ble_eq_true rfl, Nat.le_of_ble_eq_true rfl⟩ dX11_init_202 (fun H locs hY => ?_)
  refine y_aast S hK hA hY hn 151 192 (y_getm l_10) (y_at (y_l1 (y_lm l_10 m_2)) rfl) 2 rfl (gx_in rfl (by decide) (by decide)) (Nat.le_of_ble_eq_true rfl) dX11_init_205 (fun H locs hY => ?_)
  have hY := y_cv (y_setm l_10) hY
  obtain ⟨B_3, f_3, m_3, hY⟩ := y_midA m_2 (j := 7) rfl hY
  have m_3 : B_3.length = 47 := m_3
  refine lv_iinc (v := 3) (lv' := [(1, .int 3), (0, .ref (E.2.2 + (n + 0)))]) hx hb dX11_init_206 hl (k := 0) rfl (by decide) (by decide) rfl (fun ls hl => ?_)
  refine lv_goto (tgt := 188) hx hb dX11_init_209 (by decide) ?_
  refine lv_iload_n hx hb dX11_init_188 rfl (lv_at hl 0 rfl) ?_
  refine lv_iconst (v := 3) hx hb dX11_init_189 (by decide) ?_
  refine lv_icmp_ge (tgt := 212) hx hb dX11_init_190 (by decide) (fun _ => ?_) (fun h => absurd (by decide) h)
  have q : (.inl (12, [some (some (n + 1)), some (some (n + 3)), some (some (n + 9)), some (some (n + 15)), some (some (n + 17)), some (some (n + 21)), some (some (n + 25)), some (some (n + 30)), some (some (n + 37)), some (some (n + 44)), some (some (n + 151)), none, some (some (n + 152)), some (some (n + 156)), some (some (n + 158)), some (some (n + 160))])) :: (M_10 ++ ((.inr (3, 3, [some (n + 178), some (n + 185), some (n + 192)])) :: B_3)) = b_X n := by
    rw [f_3, f_2, f_1, f_0, e_10, e_9, e_8, e_7, e_6, e_5, e_4, e_3, e_2, e_1, e_0]
    simp only [List.append_assoc, List.nil_append, List.cons_append]
    rfl
  have hY := y_cv q hY
  exact y_r S hr hlk hY dX11_init_212
def b_M (n : Nat) : List gD := (.inl (13, [none, none, some (some (n + 1)), none, none, some (some (n + 2)), some (some (n + 3)), some (some (n + 4)), some (some (n + 5)), some (some (n + 6)), some (some (n + 7)), some (some (n + 8)), some (some (n + 9)), none, none, none, none, some (some (n + 10)), some (some (n + 11)), some (some (n + 12)), some (some (n + 13)), none, some (some (n + 14)), some (some (n + 15)), none, some (some (n + 16)), some (some (n + 17)), some (some (n + 18)), none, none, some (some (n + 19)), none, none, none, none, none, none, some (some (n + 20)), some (some (n + 21)), some (some (n + 22)), some (some (n + 23)), some (some (n + 24)), none, none, some (some (n + 25)), none, none, some (some (n + 26)), none, none, none, none, none, some (some (n + 27)), some (some (n + 28)), some (some (n + 29)), some (some (n + 30)), some (some (n + 31)), some (some (n + 32)), some (some (n + 33))])) :: (.inr (1, 16, [])) :: (.inr (0, 12, [])) :: (.inr (0, 12, [])) :: (.inr (0, 12, [])) :: (.inr (0, 12, [])) :: (.inr (0, 40, [])) :: (.inr (0, 45, [])) :: (.inr (0, 45, [])) :: (.inr (0, 80, [])) :: (.inr (0, 12, [])) :: (.inr (0, 12, [])) :: (.inr (0, 12, [])) :: (.inr (0, 12, [])) :: (.inr (0, 80, [])) :: (.inr (0, 80, [])) :: (.inr (0, 40, [])) :: (.inr (0, 80, [])) :: (.inr (0, 80, [])) :: (.inr (0, 80, [])) :: (.inr (0, 720, [])) :: (.inr (0, 60, [])) :: (.inr (0, 60, [])) :: (.inr (0, 60, [])) :: (.inr (0, 60, [])) :: (.inr (0, 45, [])) :: (.inr (0, 4096, [])) :: (.inr (0, 10, [])) :: (.inr (0, 10, [])) :: (.inr (0, 10, [])) :: (.inr (2, 4096, [])) :: (.inr (0, 13, [])) :: (.inr (2, 3, [])) :: (.inr (0, 135, [])) :: []
set_option maxHeartbeats 4000000 in
set_option maxRecDepth 100000 in
theorem k_M (l : Launch) {E : gE} (tb : List gD) (n : Nat) (hn : tb.length = n) (σ : gI) (τ : gJ) (h0 : ∀ c k : Nat, n ≤ c → σ c k = 0) (t0 : ∀ c k : Nat, n ≤ c → τ c k = 0) : gx_Mc l yX12_init cX12_init 1 1 33 10140 (tb ++ [.inl (13, [none, none, some none, none, none, some none, some none, some none, some none, some none, some none, some none, some none, none, none, none, none, some none, some none, some none, some none, none, some none, some none, none, some none, some none, some none, none, none, some none, none, none, none, none, none, none, some none, some none, some none, some none, some none, none, none, some none, none, none, some none, none, none, none, none, none, some none, some none, some none, some none, some none, some none, some none])]) (tb ++ b_M n) E σ (σ) τ [.ref (E.2.2 + (n + 0))] := by
  refine y_b (by decide +kernel) (Nat.le_of_ble_eq_true rfl) ?_
  intro P9 e9 s m9 below meth C9 S hr hlk hnm hK hN hA hY ls hl
  have S : CallFix P9 m9 C9 cX12_init 1 s _ gx_G RX12 := S
  have hx := S.1
  have hb := S.2.1
  have hl : lv_has ls 1 [(0, .ref (E.2.2 + (n + 0)))] := hl
  obtain ⟨M_0, e_0, l_0, hY⟩ := y_beg1 (.inl (13, [none, none, some none, none, none, some none, some none, some none, some none, some none, some none, some none, some none, none, none, none, none, some none, some none, some none, some none, none, some none, some none, none, some none, some none, some none, none, none, some none, none, none, none, none, none, none, some none, some none, some none, some none, some none, none, none, some none, none, none, some none, none, none, none, none, none, some none, some none, some none, some none, some none, some none, some none])) hY
  refine lv_aload_n hx hb dX12_init_0 rfl (lv_at hl 0 rfl) ?_
  refine gx_obj S mw_1413 mw_121 mw_122 hl.1 dX12_init_1 ⟨Nat.le_of_ble_eq_true rfl, Nat.le_of_ble_eq_true rfl⟩ ?_
  refine lv_aload_n hx hb dX12_init_4 rfl (lv_at hl 0 rfl) ?_
  refine lv_bipush (v := 16) hx hb dX12_init_5 (by decide) ?_
  refine y_newJ S hK hY hn 1 (y_l1 l_0) (N := 16) (by decide) (by decide) (by decide) (fun c9 k9 h9 => t0 c9 k9 (by omega)) mw_364 ⟨Nat.le_of_ble_eq_true rfl, Nat.le_of_ble_eq_true rfl⟩ dX12_init_7 (fun H hY => ?_)
  refine y_putF S hK hA hY hn 0 rfl cl_13 2 (Nat.le_of_ble_eq_true rfl) (Nat.le_of_ble_eq_true rfl) mw_1416 rfl ⟨rfl, hnm, rfl⟩ (ty := .array .long) (j := (n + 1)) (by decide +kernel) rfl rfl dX12_init_9 (fun H locs hY => ?_)
  have hY : gx_Y tb ((.inl (13, [none, none, some (some (n + 1)), none, none, some none, some none, some none, some none, some none, some none, some none, some none, none, none, none, none, some none, some none, some none, some none, none, some none, some none, none, some none, some none, some none, none, none, some none, none, none, none, none, none, none, some none, some none, some none, some none, some none, none, none, some none, none, none, some none, none, none, none, none, none, some none, some none, some none, some none, some none, some none, some none])) :: (M_0 ++ [.inr (1, 16, [])])) _ E s (σ) τ H _ := hY
  obtain ⟨M_1, e_1, l_1, hY⟩ := y_abs1 l_0 (j := 1) rfl hY
  have l_1 : M_1.length = 1 := l_1
  refine lv_aload_n hx hb dX12_init_12 rfl (lv_at hl 0 rfl) ?_
  refine lv_bipush (v := 12) hx hb dX12_init_13 (by decide) ?_
  refine y_newI S hK hY hn 2 (y_l1 l_1) (N := 12) (by decide) (by decide) (by decide) (fun c9 k9 h9 => h0 c9 k9 (by omega)) mw_141 ⟨Nat.le_of_ble_eq_true rfl, Nat.le_of_ble_eq_true rfl⟩ dX12_init_15 (fun H hY => ?_)
  refine y_putF S hK hA hY hn 0 rfl cl_13 5 (Nat.le_of_ble_eq_true rfl) (Nat.le_of_ble_eq_true rfl) mw_1419 rfl ⟨rfl, hnm, rfl⟩ (ty := .array .int) (j := (n + 2)) (by decide +kernel) rfl rfl dX12_init_17 (fun H locs hY => ?_)
  have hY : gx_Y tb ((.inl (13, [none, none, some (some (n + 1)), none, none, some (some (n + 2)), some none, some none, some none, some none, some none, some none, some none, none, none, none, none, some none, some none, some none, some none, none, some none, some none, none, some none, some none, some none, none, none, some none, none, none, none, none, none, none, some none, some none, some none, some none, some none, none, none, some none, none, none, some none, none, none, none, none, none, some none, some none, some none, some none, some none, some none, some none])) :: (M_1 ++ [.inr (0, 12, [])])) _ E s (σ) τ H _ := hY
  obtain ⟨M_2, e_2, l_2, hY⟩ := y_abs1 l_1 (j := 1) rfl hY
  have l_2 : M_2.length = 2 := l_2
  refine lv_aload_n hx hb dX12_init_20 rfl (lv_at hl 0 rfl) ?_
  refine lv_bipush (v := 12) hx hb dX12_init_21 (by decide) ?_
  refine y_newI S hK hY hn 3 (y_l1 l_2) (N := 12) (by decide) (by decide) (by decide) (fun c9 k9 h9 => h0 c9 k9 (by omega)) mw_141 ⟨Nat.le_of_ble_eq_true rfl, Nat.le_of_ble_eq_true rfl⟩ dX12_init_23 (fun H hY => ?_)
  refine y_putF S hK hA hY hn 0 rfl cl_13 6 (Nat.le_of_ble_eq_true rfl) (Nat.le_of_ble_eq_true rfl) mw_1420 rfl ⟨rfl, hnm, rfl⟩ (ty := .array .int) (j := (n + 3)) (by decide +kernel) rfl rfl dX12_init_25 (fun H locs hY => ?_)
  have hY : gx_Y tb ((.inl (13, [none, none, some (some (n + 1)), none, none, some (some (n + 2)), some (some (n + 3)), some none, some none, some none, some none, some none, some none, none, none, none, none, some none, some none, some none, some none, none, some none, some none, none, some none, some none, some none, none, none, some none, none, none, none, none, none, none, some none, some none, some none, some none, some none, none, none, some none, none, none, some none, none, none, none, none, none, some none, some none, some none, some none, some none, some none, some none])) :: (M_2 ++ [.inr (0, 12, [])])) _ E s (σ) τ H _ := hY
  obtain ⟨M_3, e_3, l_3, hY⟩ := y_abs1 l_2 (j := 1) rfl hY
  have l_3 : M_3.length = 3 := l_3
  refine lv_aload_n hx hb dX12_init_28 rfl (lv_at hl 0 rfl) ?_
  refine lv_bipush (v := 12) hx hb dX12_init_29 (by decide) ?_
  refine y_newI S hK hY hn 4 (y_l1 l_3) (N := 12) (by decide) (by decide) (by decide) (fun c9 k9 h9 => h0 c9 k9 (by omega)) mw_141 ⟨Nat.le_of_ble_eq_true rfl, Nat.le_of_ble_eq_true rfl⟩ dX12_init_31 (fun H hY => ?_)
  refine y_putF S hK hA hY hn 0 rfl cl_13 7 (Nat.le_of_ble_eq_true rfl) (Nat.le_of_ble_eq_true rfl) mw_1421 rfl ⟨rfl, hnm, rfl⟩ (ty := .array .int) (j := (n + 4)) (by decide +kernel) rfl rfl dX12_init_33 (fun H locs hY => ?_)
  have hY : gx_Y tb ((.inl (13, [none, none, some (some (n + 1)), none, none, some (some (n + 2)), some (some (n + 3)), some (some (n + 4)), some none, some none, some none, some none, some none, none, none, none, none, some none, some none, some none, some none, none, some none, some none, none, some none, some none, some none, none, none, some none, none, none, none, none, none, none, some none, some none, some none, some none, some none, none, none, some none, none, none, some none, none, none, none, none, none, some none, some none, some none, some none, some none, some none, some none])) :: (M_3 ++ [.inr (0, 12, [])])) _ E s (σ) τ H _ := hY
  obtain ⟨M_4, e_4, l_4, hY⟩ := y_abs1 l_3 (j := 1) rfl hY
  have l_4 : M_4.length = 4 := l_4
  refine lv_aload_n hx hb dX12_init_36 rfl (lv_at hl 0 rfl) ?_
  refine lv_bipush (v := 12) hx hb dX12_init_37 (by decide) ?_
  refine y_newI S hK hY hn 5 (y_l1 l_4) (N := 12) (by decide) (by decide) (by decide) (fun c9 k9 h9 => h0 c9 k9 (by omega)) mw_141 ⟨Nat.le_of_ble_eq_true rfl, Nat.le_of_ble_eq_true rfl⟩ dX12_init_39 (fun H hY => ?_)
  refine y_putF S hK hA hY hn 0 rfl cl_13 8 (Nat.le_of_ble_eq_true rfl) (Nat.le_of_ble_eq_true rfl) mw_1422 rfl ⟨rfl, hnm, rfl⟩ (ty := .array .int) (j := (n + 5)) (by decide +kernel) rfl rfl dX12_init_41 (fun H locs hY => ?_)
  have hY : gx_Y tb ((.inl (13, [none, none, some (some (n + 1)), none, none, some (some (n + 2)), some (some (n + 3)), some (some (n + 4)), some (some (n + 5)), some none, some none, some none, some none, none, none, none, none, some none, some none, some none, some none, none, some none, some none, none, some none, some none, some none, none, none, some none, none, none, none, none, none, none, some none, some none, some none, some none, some none, none, none, some none, none, none, some none, none, none, none, none, none, some none, some none, some none, some none, some none, some none, some none])) :: (M_4 ++ [.inr (0, 12, [])])) _ E s (σ) τ H _ := hY
  obtain ⟨M_5, e_5, l_5, hY⟩ := y_abs1 l_4 (j := 1) rfl hY
  have l_5 : M_5.length = 5 := l_5
  refine lv_aload_n hx hb dX12_init_44 rfl (lv_at hl 0 rfl) ?_
  refine lv_bipush (v := 40) hx hb dX12_init_45 (by decide) ?_
  refine y_newI S hK hY hn 6 (y_l1 l_5) (N := 40) (by decide) (by decide) (by decide) (fun c9 k9 h9 => h0 c9 k9 (by omega)) mw_141 ⟨Nat.le_of_ble_eq_true rfl, Nat.le_of_ble_eq_true rfl⟩ dX12_init_47 (fun H hY => ?_)
  refine y_putF S hK hA hY hn 0 rfl cl_13 9 (Nat.le_of_ble_eq_true rfl) (Nat.le_of_ble_eq_true rfl) mw_1423 rfl ⟨rfl, hnm, rfl⟩ (ty := .array .int) (j := (n + 6)) (by decide +kernel) rfl rfl dX12_init_49 (fun H locs hY => ?_)
  have hY : gx_Y tb ((.inl (13, [none, none, some (some (n + 1)), none, none, some (some (n + 2)), some (some (n + 3)), some (some (n + 4)), some (some (n + 5)), some (some (n + 6)), some none, some none, some none, none, none, none, none, some none, some none, some none, some none, none, some none, some none, none, some none, some none, some none, none, none, some none, none, none, none, none, none, none, some none, some none, some none, some none, some none, none, none, some none, none, none, some none, none, none, none, none, none, some none, some none, some none, some none, some none, some none, some none])) :: (M_5 ++ [.inr (0, 40, [])])) _ E s (σ) τ H _ := hY
  obtain ⟨M_6, e_6, l_6, hY⟩ := y_abs1 l_5 (j := 1) rfl hY
  have l_6 : M_6.length = 6 := l_6
  refine lv_aload_n hx hb dX12_init_52 rfl (lv_at hl 0 rfl) ?_
  refine lv_bipush (v := 45) hx hb dX12_init_53 (by decide) ?_
  refine y_newI S hK hY hn 7 (y_l1 l_6) (N := 45) (by decide) (by decide) (by decide) (fun c9 k9 h9 => h0 c9 k9 (by omega)) mw_141 ⟨Nat.le_of_ble_eq_true rfl, Nat.le_of_ble_eq_true rfl⟩ dX12_init_55 (fun H hY => ?_)
  refine y_putF S hK hA hY hn 0 rfl cl_13 10 (Nat.le_of_ble_eq_true rfl) (Nat.le_of_ble_eq_true rfl) mw_1424 rfl ⟨rfl, hnm, rfl⟩ (ty := .array .int) (j := (n + 7)) (by decide +kernel) rfl rfl dX12_init_57 (fun H locs hY => ?_)
  have hY : gx_Y tb ((.inl (13, [none, none, some (some (n + 1)), none, none, some (some (n + 2)), some (some (n + 3)), some (some (n + 4)), some (some (n + 5)), some (some (n + 6)), some (some (n + 7)), some none, some none, none, none, none, none, some none, some none, some none, some none, none, some none, some none, none, some none, some none, some none, none, none, some none, none, none, none, none, none, none, some none, some none, some none, some none, some none, none, none, some none, none, none, some none, none, none, none, none, none, some none, some none, some none, some none, some none, some none, some none])) :: (M_6 ++ [.inr (0, 45, [])])) _ E s (σ) τ H _ := hY
  obtain ⟨M_7, e_7, l_7, hY⟩ := y_abs1 l_6 (j := 1) rfl hY
  have l_7 : M_7.length = 7 := l_7
  refine lv_aload_n hx hb dX12_init_60 rfl (lv_at hl 0 rfl) ?_
  refine lv_bipush (v := 45) hx hb dX12_init_61 (by decide) ?_
  refine y_newI S hK hY hn 8 (y_l1 l_7) (N := 45) (by decide) (by decide) (by decide) (fun c9 k9 h9 => h0 c9 k9 (by omega)) mw_141 ⟨Nat.le_of_ble_eq_true rfl, Nat.le_of_ble_eq_true rfl⟩ dX12_init_63 (fun H hY => ?_)
  refine y_putF S hK hA hY hn 0 rfl cl_13 11 (Nat.le_of_ble_eq_true rfl) (Nat.le_of_ble_eq_true rfl) mw_1425 rfl ⟨rfl, hnm, rfl⟩ (ty := .array .int) (j := (n + 8)) (by decide +kernel) rfl rfl dX12_init_65 (fun H locs hY => ?_)
  have hY : gx_Y tb ((.inl (13, [none, none, some (some (n + 1)), none, none, some (some (n + 2)), some (some (n + 3)), some (some (n + 4)), some (some (n + 5)), some (some (n + 6)), some (some (n + 7)), some (some (n + 8)), some none, none, none, none, none, some none, some none, some none, some none, none, some none, some none, none, some none, some none, some none, none, none, some none, none, none, none, none, none, none, some none, some none, some none, some none, some none, none, none, some none, none, none, some none, none, none, none, none, none, some none, some none, some none, some none, some none, some none, some none])) :: (M_7 ++ [.inr (0, 45, [])])) _ E s (σ) τ H _ := hY
  obtain ⟨M_8, e_8, l_8, hY⟩ := y_abs1 l_7 (j := 1) rfl hY
  have l_8 : M_8.length = 8 := l_8
  refine lv_aload_n hx hb dX12_init_68 rfl (lv_at hl 0 rfl) ?_
  refine lv_bipush (v := 80) hx hb dX12_init_69 (by decide) ?_
  refine y_newI S hK hY hn 9 (y_l1 l_8) (N := 80) (by decide) (by decide) (by decide) (fun c9 k9 h9 => h0 c9 k9 (by omega)) mw_141 ⟨Nat.le_of_ble_eq_true rfl, Nat.le_of_ble_eq_true rfl⟩ dX12_init_71 (fun H hY => ?_)
  refine y_putF S hK hA hY hn 0 rfl cl_13 12 (Nat.le_of_ble_eq_true rfl) (Nat.le_of_ble_eq_true rfl) mw_1426 rfl ⟨rfl, hnm, rfl⟩ (ty := .array .int) (j := (n + 9)) (by decide +kernel) rfl rfl dX12_init_73 (fun H locs hY => ?_)
  have hY : gx_Y tb ((.inl (13, [none, none, some (some (n + 1)), none, none, some (some (n + 2)), some (some (n + 3)), some (some (n + 4)), some (some (n + 5)), some (some (n + 6)), some (some (n + 7)), some (some (n + 8)), some (some (n + 9)), none, none, none, none, some none, some none, some none, some none, none, some none, some none, none, some none, some none, some none, none, none, some none, none, none, none, none, none, none, some none, some none, some none, some none, some none, none, none, some none, none, none, some none, none, none, none, none, none, some none, some none, some none, some none, some none, some none, some none])) :: (M_8 ++ [.inr (0, 80, [])])) _ E s (σ) τ H _ := hY
  obtain ⟨M_9, e_9, l_9, hY⟩ := y_abs1 l_8 (j := 1) rfl hY
  have l_9 : M_9.length = 9 := l_9
  refine lv_aload_n hx hb dX12_init_76 rfl (lv_at hl 0 rfl) ?_
  refine lv_bipush (v := 12) hx hb dX12_init_77 (by decide) ?_
  refine y_newI S hK hY hn 10 (y_l1 l_9) (N := 12) (by decide) (by decide) (by decide) (fun c9 k9 h9 => h0 c9 k9 (by omega)) mw_141 ⟨Nat.le_of_ble_eq_true rfl, Nat.le_of_ble_eq_true rfl⟩ dX12_init_79 (fun H hY => ?_)
  refine y_putF S hK hA hY hn 0 rfl cl_13 17 (Nat.le_of_ble_eq_true rfl) (Nat.le_of_ble_eq_true rfl) mw_1431 rfl ⟨rfl, hnm, rfl⟩ (ty := .array .int) (j := (n + 10)) (by decide +kernel) rfl rfl dX12_init_81 (fun H locs hY => ?_)
  have hY : gx_Y tb ((.inl (13, [none, none, some (some (n + 1)), none, none, some (some (n + 2)), some (some (n + 3)), some (some (n + 4)), some (some (n + 5)), some (some (n + 6)), some (some (n + 7)), some (some (n + 8)), some (some (n + 9)), none, none, none, none, some (some (n + 10)), some none, some none, some none, none, some none, some none, none, some none, some none, some none, none, none, some none, none, none, none, none, none, none, some none, some none, some none, some none, some none, none, none, some none, none, none, some none, none, none, none, none, none, some none, some none, some none, some none, some none, some none, some none])) :: (M_9 ++ [.inr (0, 12, [])])) _ E s (σ) τ H _ := hY
  obtain ⟨M_10, e_10, l_10, hY⟩ := y_abs1 l_9 (j := 1) rfl hY
  have l_10 : M_10.length = 10 := l_10
  refine lv_aload_n hx hb dX12_init_84 rfl (lv_at hl 0 rfl) ?_
  refine lv_bipush (v := 12) hx hb dX12_init_85 (by decide) ?_
  refine y_newI S hK hY hn 11 (y_l1 l_10) (N := 12) (by decide) (by decide) (by decide) (fun c9 k9 h9 => h0 c9 k9 (by omega)) mw_141 ⟨Nat.le_of_ble_eq_true rfl, Nat.le_of_ble_eq_true rfl⟩ dX12_init_87 (fun H hY => ?_)
  refine y_putF S hK hA hY hn 0 rfl cl_13 18 (Nat.le_of_ble_eq_true rfl) (Nat.le_of_ble_eq_true rfl) mw_1432 rfl ⟨rfl, hnm, rfl⟩ (ty := .array .int) (j := (n + 11)) (by decide +kernel) rfl rfl dX12_init_89 (fun H locs hY => ?_)
  have hY : gx_Y tb ((.inl (13, [none, none, some (some (n + 1)), none, none, some (some (n + 2)), some (some (n + 3)), some (some (n + 4)), some (some (n + 5)), some (some (n + 6)), some (some (n + 7)), some (some (n + 8)), some (some (n + 9)), none, none, none, none, some (some (n + 10)), some (some (n + 11)), some none, some none, none, some none, some none, none, some none, some none, some none, none, none, some none, none, none, none, none, none, none, some none, some none, some none, some none, some none, none, none, some none, none, none, some none, none, none, none, none, none, some none, some none, some none, some none, some none, some none, some none])) :: (M_10 ++ [.inr (0, 12, [])])) _ E s (σ) τ H _ := hY
  obtain ⟨M_11, e_11, l_11, hY⟩ := y_abs1 l_10 (j := 1) rfl hY
  have l_11 : M_11.length = 11 := l_11
  refine lv_aload_n hx hb dX12_init_92 rfl (lv_at hl 0 rfl) ?_
  refine lv_bipush (v := 12) hx hb dX12_init_93 (by decide) ?_
  refine y_newI S hK hY hn 12 (y_l1 l_11) (N := 12) (by decide) (by decide) (by decide) (fun c9 k9 h9 => h0 c9 k9 (by omega)) mw_141 ⟨Nat.le_of_ble_eq_true rfl, Nat.le_of_ble_eq_true rfl⟩ dX12_init_95 (fun H hY => ?_)
  refine y_putF S hK hA hY hn 0 rfl cl_13 19 (Nat.le_of_ble_eq_true rfl) (Nat.le_of_ble_eq_true rfl) mw_1433 rfl ⟨rfl, hnm, rfl⟩ (ty := .array .int) (j := (n + 12)) (by decide +kernel) rfl rfl dX12_init_97 (fun H locs hY => ?_)
  have hY : gx_Y tb ((.inl (13, [none, none, some (some (n + 1)), none, none, some (some (n + 2)), some (some (n + 3)), some (some (n + 4)), some (some (n + 5)), some (some (n + 6)), some (some (n + 7)), some (some (n + 8)), some (some (n + 9)), none, none, none, none, some (some (n + 10)), some (some (n + 11)), some (some (n + 12)), some none, none, some none, some none, none, some none, some none, some none, none, none, some none, none, none, none, none, none, none, some none, some none, some none, some none, some none, none, none, some none, none, none, some none, none, none, none, none, none, some none, some none, some none, some none, some none, some none, some none])) :: (M_11 ++ [.inr (0, 12, [])])) _ E s (σ) τ H _ := hY
  obtain ⟨M_12, e_12, l_12, hY⟩ := y_abs1 l_11 (j := 1) rfl hY
  have l_12 : M_12.length = 12 := l_12
  refine lv_aload_n hx hb dX12_init_100 rfl (lv_at hl 0 rfl) ?_
  refine lv_bipush (v := 12) hx hb dX12_init_101 (by decide) ?_
  refine y_newI S hK hY hn 13 (y_l1 l_12) (N := 12) (by decide) (by decide) (by decide) (fun c9 k9 h9 => h0 c9 k9 (by omega)) mw_141 ⟨Nat.le_of_ble_eq_true rfl, Nat.le_of_ble_eq_true rfl⟩ dX12_init_103 (fun H hY => ?_)
  refine y_putF S hK hA hY hn 0 rfl cl_13 20 (Nat.le_of_ble_eq_true rfl) (Nat.le_of_ble_eq_true rfl) mw_1434 rfl ⟨rfl, hnm, rfl⟩ (ty := .array .int) (j := (n + 13)) (by decide +kernel) rfl rfl dX12_init_105 (fun H locs hY => ?_)
  have hY : gx_Y tb ((.inl (13, [none, none, some (some (n + 1)), none, none, some (some (n + 2)), some (some (n + 3)), some (some (n + 4)), some (some (n + 5)), some (some (n + 6)), some (some (n + 7)), some (some (n + 8)), some (some (n + 9)), none, none, none, none, some (some (n + 10)), some (some (n + 11)), some (some (n + 12)), some (some (n + 13)), none, some none, some none, none, some none, some none, some none, none, none, some none, none, none, none, none, none, none, some none, some none, some none, some none, some none, none, none, some none, none, none, some none, none, none, none, none, none, some none, some none, some none, some none, some none, some none, some none])) :: (M_12 ++ [.inr (0, 12, [])])) _ E s (σ) τ H _ := hY
  obtain ⟨M_13, e_13, l_13, hY⟩ := y_abs1 l_12 (j := 1) rfl hY
  have l_13 : M_13.length = 13 := l_13
  refine lv_aload_n hx hb dX12_init_108 rfl (lv_at hl 0 rfl) ?_
  refine lv_bipush (v := 80) hx hb dX12_init_109 (by decide) ?_
  refine y_newI S hK hY hn 14 (y_l1 l_13) (N := 80) (by decide) (by decide) (by decide) (fun c9 k9 h9 => h0 c9 k9 (by omega)) mw_141 ⟨Nat.le_of_ble_eq_true rfl, Nat.le_of_ble_eq_true rfl⟩ dX12_init_111 (fun H hY => ?_)
  refine y_putF S hK hA hY hn 0 rfl cl_13 22 (Nat.le_of_ble_eq_true rfl) (Nat.le_of_ble_eq_true rfl) mw_1436 rfl ⟨rfl, hnm, rfl⟩ (ty := .array .int) (j := (n + 14)) (by decide +kernel) rfl rfl dX12_init_113 (fun H locs hY => ?_)
  have hY : gx_Y tb ((.inl (13, [none, none, some (some (n + 1)), none, none, some (some (n + 2)), some (some (n + 3)), some (some (n + 4)), some (some (n + 5)), some (some (n + 6)), some (some (n + 7)), some (some (n + 8)), some (some (n + 9)), none, none, none, none, some (some (n + 10)), some (some (n + 11)), some (some (n + 12)), some (some (n + 13)), none, some (some (n + 14)), some none, none, some none, some none, some none, none, none, some none, none, none, none, none, none, none, some none, some none, some none, some none, some none, none, none, some none, none, none, some none, none, none, none, none, none, some none, some none, some none, some none, some none, some none, some none])) :: (M_13 ++ [.inr (0, 80, [])])) _ E s (σ) τ H _ := hY
  obtain ⟨M_14, e_14, l_14, hY⟩ := y_abs1 l_13 (j := 1) rfl hY
  have l_14 : M_14.length = 14 := l_14
  refine lv_aload_n hx hb dX12_init_116 rfl (lv_at hl 0 rfl) ?_
  refine lv_bipush (v := 80) hx hb dX12_init_117 (by decide) ?_
  refine y_newI S hK hY hn 15 (y_l1 l_14) (N := 80) (by decide) (by decide) (by decide) (fun c9 k9 h9 => h0 c9 k9 (by omega)) mw_141 ⟨Nat.le_of_ble_eq_true rfl, Nat.le_of_ble_eq_true rfl⟩ dX12_init_119 (fun H hY => ?_)
  refine y_putF S hK hA hY hn 0 rfl cl_13 23 (Nat.le_of_ble_eq_true rfl) (Nat.le_of_ble_eq_true rfl) mw_1437 rfl ⟨rfl, hnm, rfl⟩ (ty := .array .int) (j := (n + 15)) (by decide +kernel) rfl rfl dX12_init_121 (fun H locs hY => ?_)
  have hY : gx_Y tb ((.inl (13, [none, none, some (some (n + 1)), none, none, some (some (n + 2)), some (some (n + 3)), some (some (n + 4)), some (some (n + 5)), some (some (n + 6)), some (some (n + 7)), some (some (n + 8)), some (some (n + 9)), none, none, none, none, some (some (n + 10)), some (some (n + 11)), some (some (n + 12)), some (some (n + 13)), none, some (some (n + 14)), some (some (n + 15)), none, some none, some none, some none, none, none, some none, none, none, none, none, none, none, some none, some none, some none, some none, some none, none, none, some none, none, none, some none, none, none, none, none, none, some none, some none, some none, some none, some none, some none, some none])) :: (M_14 ++ [.inr (0, 80, [])])) _ E s (σ) τ H _ := hY
  obtain ⟨M_15, e_15, l_15, hY⟩ := y_abs1 l_14 (j := 1) rfl hY
  have l_15 : M_15.length = 15 := l_15
  refine lv_aload_n hx hb dX12_init_124 rfl (lv_at hl 0 rfl) ?_
  refine lv_bipush (v := 40) hx hb dX12_init_125 (by decide) ?_
  refine y_newI S hK hY hn 16 (y_l1 l_15) (N := 40) (by decide) (by decide) (by decide) (fun c9 k9 h9 => h0 c9 k9 (by omega)) mw_141 ⟨Nat.le_of_ble_eq_true rfl, Nat.le_of_ble_eq_true rfl⟩ dX12_init_127 (fun H hY => ?_)
  refine y_putF S hK hA hY hn 0 rfl cl_13 25 (Nat.le_of_ble_eq_true rfl) (Nat.le_of_ble_eq_true rfl) mw_1439 rfl ⟨rfl, hnm, rfl⟩ (ty := .array .int) (j := (n + 16)) (by decide +kernel) rfl rfl dX12_init_129 (fun H locs hY => ?_)
  have hY : gx_Y tb ((.inl (13, [none, none, some (some (n + 1)), none, none, some (some (n + 2)), some (some (n + 3)), some (some (n + 4)), some (some (n + 5)), some (some (n + 6)), some (some (n + 7)), some (some (n + 8)), some (some (n + 9)), none, none, none, none, some (some (n + 10)), some (some (n + 11)), some (some (n + 12)), some (some (n + 13)), none, some (some (n + 14)), some (some (n + 15)), none, some (some (n + 16)), some none, some none, none, none, some none, none, none, none, none, none, none, some none, some none, some none, some none, some none, none, none, some none, none, none, some none, none, none, none, none, none, some none, some none, some none, some none, some none, some none, some none])) :: (M_15 ++ [.inr (0, 40, [])])) _ E s (σ) τ H _ := hY
  obtain ⟨M_16, e_16, l_16, hY⟩ := y_abs1 l_15 (j := 1) rfl hY
  have l_16 : M_16.length = 16 := l_16
  refine lv_aload_n hx hb dX12_init_132 rfl (lv_at hl 0 rfl) ?_
  refine lv_bipush (v := 80) hx hb dX12_init_133 (by decide) ?_
  refine y_newI S hK hY hn 17 (y_l1 l_16) (N := 80) (by decide) (by decide) (by decide) (fun c9 k9 h9 => h0 c9 k9 (by omega)) mw_141 ⟨Nat.le_of_ble_eq_true rfl, Nat.le_of_ble_eq_true rfl⟩ dX12_init_135 (fun H hY => ?_)
  refine y_putF S hK hA hY hn 0 rfl cl_13 26 (Nat.le_of_ble_eq_true rfl) (Nat.le_of_ble_eq_true rfl) mw_1440 rfl ⟨rfl, hnm, rfl⟩ (ty := .array .int) (j := (n + 17)) (by decide +kernel) rfl rfl dX12_init_137 (fun H locs hY => ?_)
  have hY : gx_Y tb ((.inl (13, [none, none, some (some (n + 1)), none, none, some (some (n + 2)), some (some (n + 3)), some (some (n + 4)), some (some (n + 5)), some (some (n + 6)), some (some (n + 7)), some (some (n + 8)), some (some (n + 9)), none, none, none, none, some (some (n + 10)), some (some (n + 11)), some (some (n + 12)), some (some (n + 13)), none, some (some (n + 14)), some (some (n + 15)), none, some (some (n + 16)), some (some (n + 17)), some none, none, none, some none, none, none, none, none, none, none, some none, some none, some none, some none, some none, none, none, some none, none, none, some none, none, none, none, none, none, some none, some none, some none, some none, some none, some none, some none])) :: (M_16 ++ [.inr (0, 80, [])])) _ E s (σ) τ H _ := hY
  obtain ⟨M_17, e_17, l_17, hY⟩ := y_abs1 l_16 (j := 1) rfl hY
  have l_17 : M_17.length = 17 := l_17
  refine lv_aload_n hx hb dX12_init_140 rfl (lv_at hl 0 rfl) ?_
  refine lv_bipush (v := 80) hx hb dX12_init_141 (by decide) ?_
  refine y_newI S hK hY hn 18 (y_l1 l_17) (N := 80) (by decide) (by decide) (by decide) (fun c9 k9 h9 => h0 c9 k9 (by omega)) mw_141 ⟨Nat.le_of_ble_eq_true rfl, Nat.le_of_ble_eq_true rfl⟩ dX12_init_143 (fun H hY => ?_)
  refine y_putF S hK hA hY hn 0 rfl cl_13 27 (Nat.le_of_ble_eq_true rfl) (Nat.le_of_ble_eq_true rfl) mw_1441 rfl ⟨rfl, hnm, rfl⟩ (ty := .array .int) (j := (n + 18)) (by decide +kernel) rfl rfl dX12_init_145 (fun H locs hY => ?_)
  have hY : gx_Y tb ((.inl (13, [none, none, some (some (n + 1)), none, none, some (some (n + 2)), some (some (n + 3)), some (some (n + 4)), some (some (n + 5)), some (some (n + 6)), some (some (n + 7)), some (some (n + 8)), some (some (n + 9)), none, none, none, none, some (some (n + 10)), some (some (n + 11)), some (some (n + 12)), some (some (n + 13)), none, some (some (n + 14)), some (some (n + 15)), none, some (some (n + 16)), some (some (n + 17)), some (some (n + 18)), none, none, some none, none, none, none, none, none, none, some none, some none, some none, some none, some none, none, none, some none, none, none, some none, none, none, none, none, none, some none, some none, some none, some none, some none, some none, some none])) :: (M_17 ++ [.inr (0, 80, [])])) _ E s (σ) τ H _ := hY
  obtain ⟨M_18, e_18, l_18, hY⟩ := y_abs1 l_17 (j := 1) rfl hY
  have l_18 : M_18.length = 18 := l_18
  refine lv_aload_n hx hb dX12_init_148 rfl (lv_at hl 0 rfl) ?_
  refine lv_bipush (v := 80) hx hb dX12_init_149 (by decide) ?_
  refine y_newI S hK hY hn 19 (y_l1 l_18) (N := 80) (by decide) (by decide) (by decide) (fun c9 k9 h9 => h0 c9 k9 (by omega)) mw_141 ⟨Nat.le_of_ble_eq_true rfl, Nat.le_of_ble_eq_true rfl⟩ dX12_init_151 (fun H hY => ?_)
  refine y_putF S hK hA hY hn 0 rfl cl_13 30 (Nat.le_of_ble_eq_true rfl) (Nat.le_of_ble_eq_true rfl) mw_1444 rfl ⟨rfl, hnm, rfl⟩ (ty := .array .int) (j := (n + 19)) (by decide +kernel) rfl rfl dX12_init_153 (fun H locs hY => ?_)
  have hY : gx_Y tb ((.inl (13, [none, none, some (some (n + 1)), none, none, some (some (n + 2)), some (some (n + 3)), some (some (n + 4)), some (some (n + 5)), some (some (n + 6)), some (some (n + 7)), some (some (n + 8)), some (some (n + 9)), none, none, none, none, some (some (n + 10)), some (some (n + 11)), some (some (n + 12)), some (some (n + 13)), none, some (some (n + 14)), some (some (n + 15)), none, some (some (n + 16)), some (some (n + 17)), some (some (n + 18)), none, none, some (some (n + 19)), none, none, none, none, none, none, some none, some none, some none, some none, some none, none, none, some none, none, none, some none, none, none, none, none, none, some none, some none, some none, some none, some none, some none, some none])) :: (M_18 ++ [.inr (0, 80, [])])) _ E s (σ) τ H _ := hY
  obtain ⟨M_19, e_19, l_19, hY⟩ := y_abs1 l_18 (j := 1) rfl hY
  have l_19 : M_19.length = 19 := l_19
  refine lv_aload_n hx hb dX12_init_156 rfl (lv_at hl 0 rfl) ?_
  refine lv_sipush (v := 720) hx hb dX12_init_157 (by decide) ?_
  refine y_newI S hK hY hn 20 (y_l1 l_19) (N := 720) (by decide) (by decide) (by decide) (fun c9 k9 h9 => h0 c9 k9 (by omega)) mw_141 ⟨Nat.le_of_ble_eq_true rfl, Nat.le_of_ble_eq_true rfl⟩ dX12_init_160 (fun H hY => ?_)
  refine y_putF S hK hA hY hn 0 rfl cl_13 37 (Nat.le_of_ble_eq_true rfl) (Nat.le_of_ble_eq_true rfl) mw_1451 rfl ⟨rfl, hnm, rfl⟩ (ty := .array .int) (j := (n + 20)) (by decide +kernel) rfl rfl dX12_init_162 (fun H locs hY => ?_)
  have hY : gx_Y tb ((.inl (13, [none, none, some (some (n + 1)), none, none, some (some (n + 2)), some (some (n + 3)), some (some (n + 4)), some (some (n + 5)), some (some (n + 6)), some (some (n + 7)), some (some (n + 8)), some (some (n + 9)), none, none, none, none, some (some (n + 10)), some (some (n + 11)), some (some (n + 12)), some (some (n + 13)), none, some (some (n + 14)), some (some (n + 15)), none, some (some (n + 16)), some (some (n + 17)), some (some (n + 18)), none, none, some (some (n + 19)), none, none, none, none, none, none, some (some (n + 20)), some none, some none, some none, some none, none, none, some none, none, none, some none, none, none, none, none, none, some none, some none, some none, some none, some none, some none, some none])) :: (M_19 ++ [.inr (0, 720, [])])) _ E s (σ) τ H _ := hY
  obtain ⟨M_20, e_20, l_20, hY⟩ := y_abs1 l_19 (j := 1) rfl hY
  have l_20 : M_20.length = 20 := l_20
  refine lv_aload_n hx hb dX12_init_165 rfl (lv_at hl 0 rfl) ?_
  refine lv_bipush (v := 60) hx hb dX12_init_166 (by decide) ?_
  refine y_newI S hK hY hn 21 (y_l1 l_20) (N := 60) (by decide) (by decide) (by decide) (fun c9 k9 h9 => h0 c9 k9 (by omega)) mw_141 ⟨Nat.le_of_ble_eq_true rfl, Nat.le_of_ble_eq_true rfl⟩ dX12_init_168 (fun H hY => ?_)
  refine y_putF S hK hA hY hn 0 rfl cl_13 38 (Nat.le_of_ble_eq_true rfl) (Nat.le_of_ble_eq_true rfl) mw_1452 rfl ⟨rfl, hnm, rfl⟩ (ty := .array .int) (j := (n + 21)) (by decide +kernel) rfl rfl dX12_init_170 (fun H locs hY => ?_)
  have hY : gx_Y tb ((.inl (13, [none, none, some (some (n + 1)), none, none, some (some (n + 2)), some (some (n + 3)), some (some (n + 4)), some (some (n + 5)), some (some (n + 6)), some (some (n + 7)), some (some (n + 8)), some (some (n + 9)), none, none, none, none, some (some (n + 10)), some (some (n + 11)), some (some (n + 12)), some (some (n + 13)), none, some (some (n + 14)), some (some (n + 15)), none, some (some (n + 16)), some (some (n + 17)), some (some (n + 18)), none, none, some (some (n + 19)), none, none, none, none, none, none, some (some (n + 20)), some (some (n + 21)), some none, some none, some none, none, none, some none, none, none, some none, none, none, none, none, none, some none, some none, some none, some none, some none, some none, some none])) :: (M_20 ++ [.inr (0, 60, [])])) _ E s (σ) τ H _ := hY
  obtain ⟨M_21, e_21, l_21, hY⟩ := y_abs1 l_20 (j := 1) rfl hY
  have l_21 : M_21.length = 21 := l_21
  refine lv_aload_n hx hb dX12_init_173 rfl (lv_at hl 0 rfl) ?_
  refine lv_bipush (v := 60) hx hb dX12_init_174 (by decide) ?_
  refine y_newI S hK hY hn 22 (y_l1 l_21) (N := 60) (by decide) (by decide) (by decide) (fun c9 k9 h9 => h0 c9 k9 (by omega)) mw_141 ⟨Nat.le_of_ble_eq_true rfl, Nat.le_of_ble_eq_true rfl⟩ dX12_init_176 (fun H hY => ?_)
  refine y_putF S hK hA hY hn 0 rfl cl_13 39 (Nat.le_of_ble_eq_true rfl) (Nat.le_of_ble_eq_true rfl) mw_1453 rfl ⟨rfl, hnm, rfl⟩ (ty := .array .int) (j := (n + 22)) (by decide +kernel) rfl rfl dX12_init_178 (fun H locs hY => ?_)
  have hY : gx_Y tb ((.inl (13, [none, none, some (some (n + 1)), none, none, some (some (n + 2)), some (some (n + 3)), some (some (n + 4)), some (some (n + 5)), some (some (n + 6)), some (some (n + 7)), some (some (n + 8)), some (some (n + 9)), none, none, none, none, some (some (n + 10)), some (some (n + 11)), some (some (n + 12)), some (some (n + 13)), none, some (some (n + 14)), some (some (n + 15)), none, some (some (n + 16)), some (some (n + 17)), some (some (n + 18)), none, none, some (some (n + 19)), none, none, none, none, none, none, some (some (n + 20)), some (some (n + 21)), some (some (n + 22)), some none, some none, none, none, some none, none, none, some none, none, none, none, none, none, some none, some none, some none, some none, some none, some none, some none])) :: (M_21 ++ [.inr (0, 60, [])])) _ E s (σ) τ H _ := hY
  obtain ⟨M_22, e_22, l_22, hY⟩ := y_abs1 l_21 (j := 1) rfl hY
  have l_22 : M_22.length = 22 := l_22
  refine lv_aload_n hx hb dX12_init_181 rfl (lv_at hl 0 rfl) ?_
  refine lv_bipush (v := 60) hx hb dX12_init_182 (by decide) ?_
  refine y_newI S hK hY hn 23 (y_l1 l_22) (N := 60) (by decide) (by decide) (by decide) (fun c9 k9 h9 => h0 c9 k9 (by omega)) mw_141 ⟨Nat.le_of_ble_eq_true rfl, Nat.le_of_ble_eq_true rfl⟩ dX12_init_184 (fun H hY => ?_)
  refine y_putF S hK hA hY hn 0 rfl cl_13 40 (Nat.le_of_ble_eq_true rfl) (Nat.le_of_ble_eq_true rfl) mw_1454 rfl ⟨rfl, hnm, rfl⟩ (ty := .array .int) (j := (n + 23)) (by decide +kernel) rfl rfl dX12_init_186 (fun H locs hY => ?_)
  have hY : gx_Y tb ((.inl (13, [none, none, some (some (n + 1)), none, none, some (some (n + 2)), some (some (n + 3)), some (some (n + 4)), some (some (n + 5)), some (some (n + 6)), some (some (n + 7)), some (some (n + 8)), some (some (n + 9)), none, none, none, none, some (some (n + 10)), some (some (n + 11)), some (some (n + 12)), some (some (n + 13)), none, some (some (n + 14)), some (some (n + 15)), none, some (some (n + 16)), some (some (n + 17)), some (some (n + 18)), none, none, some (some (n + 19)), none, none, none, none, none, none, some (some (n + 20)), some (some (n + 21)), some (some (n + 22)), some (some (n + 23)), some none, none, none, some none, none, none, some none, none, none, none, none, none, some none, some none, some none, some none, some none, some none, some none])) :: (M_22 ++ [.inr (0, 60, [])])) _ E s (σ) τ H _ := hY
  obtain ⟨M_23, e_23, l_23, hY⟩ := y_abs1 l_22 (j := 1) rfl hY
  have l_23 : M_23.length = 23 := l_23
  refine lv_aload_n hx hb dX12_init_189 rfl (lv_at hl 0 rfl) ?_
  refine lv_bipush (v := 60) hx hb dX12_init_190 (by decide) ?_
  refine y_newI S hK hY hn 24 (y_l1 l_23) (N := 60) (by decide) (by decide) (by decide) (fun c9 k9 h9 => h0 c9 k9 (by omega)) mw_141 ⟨Nat.le_of_ble_eq_true rfl, Nat.le_of_ble_eq_true rfl⟩ dX12_init_192 (fun H hY => ?_)
  refine y_putF S hK hA hY hn 0 rfl cl_13 41 (Nat.le_of_ble_eq_true rfl) (Nat.le_of_ble_eq_true rfl) mw_1455 rfl ⟨rfl, hnm, rfl⟩ (ty := .array .int) (j := (n + 24)) (by decide +kernel) rfl rfl dX12_init_194 (fun H locs hY => ?_)
  have hY : gx_Y tb ((.inl (13, [none, none, some (some (n + 1)), none, none, some (some (n + 2)), some (some (n + 3)), some (some (n + 4)), some (some (n + 5)), some (some (n + 6)), some (some (n + 7)), some (some (n + 8)), some (some (n + 9)), none, none, none, none, some (some (n + 10)), some (some (n + 11)), some (some (n + 12)), some (some (n + 13)), none, some (some (n + 14)), some (some (n + 15)), none, some (some (n + 16)), some (some (n + 17)), some (some (n + 18)), none, none, some (some (n + 19)), none, none, none, none, none, none, some (some (n + 20)), some (some (n + 21)), some (some (n + 22)), some (some (n + 23)), some (some (n + 24)), none, none, some none, none, none, some none, none, none, none, none, none, some none, some none, some none, some none, some none, some none, some none])) :: (M_23 ++ [.inr (0, 60, [])])) _ E s (σ) τ H _ := hY
  obtain ⟨M_24, e_24, l_24, hY⟩ := y_abs1 l_23 (j := 1) rfl hY
  have l_24 : M_24.length = 24 := l_24
  refine lv_aload_n hx hb dX12_init_197 rfl (lv_at hl 0 rfl) ?_
  refine lv_bipush (v := 45) hx hb dX12_init_198 (by decide) ?_
  refine y_newI S hK hY hn 25 (y_l1 l_24) (N := 45) (by decide) (by decide) (by decide) (fun c9 k9 h9 => h0 c9 k9 (by omega)) mw_141 ⟨Nat.le_of_ble_eq_true rfl, Nat.le_of_ble_eq_true rfl⟩ dX12_init_200 (fun H hY => ?_)
  refine y_putF S hK hA hY hn 0 rfl cl_13 44 (Nat.le_of_ble_eq_true rfl) (Nat.le_of_ble_eq_true rfl) mw_1458 rfl ⟨rfl, hnm, rfl⟩ (ty := .array .int) (j := (n + 25)) (by decide +kernel) rfl rfl dX12_init_202 (fun H locs hY => ?_)
  have hY : gx_Y tb ((.inl (13, [none, none, some (some (n + 1)), none, none, some (some (n + 2)), some (some (n + 3)), some (some (n + 4)), some (some (n + 5)), some (some (n + 6)), some (some (n + 7)), some (some (n + 8)), some (some (n + 9)), none, none, none, none, some (some (n + 10)), some (some (n + 11)), some (some (n + 12)), some (some (n + 13)), none, some (some (n + 14)), some (some (n + 15)), none, some (some (n + 16)), some (some (n + 17)), some (some (n + 18)), none, none, some (some (n + 19)), none, none, none, none, none, none, some (some (n + 20)), some (some (n + 21)), some (some (n + 22)), some (some (n + 23)), some (some (n + 24)), none, none, some (some (n + 25)), none, none, some none, none, none, none, none, none, some none, some none, some none, some none, some none, some none, some none])) :: (M_24 ++ [.inr (0, 45, [])])) _ E s (σ) τ H _ := hY
  obtain ⟨M_25, e_25, l_25, hY⟩ := y_abs1 l_24 (j := 1) rfl hY
  have l_25 : M_25.length = 25 := l_25
  refine lv_aload_n hx hb dX12_init_205 rfl (lv_at hl 0 rfl) ?_
  refine lv_sipush (v := 4096) hx hb dX12_init_206 (by decide) ?_
  refine y_newI S hK hY hn 26 (y_l1 l_25) (N := 4096) (by decide) (by decide) (by decide) (fun c9 k9 h9 => h0 c9 k9 (by omega)) mw_141 ⟨Nat.le_of_ble_eq_true rfl, Nat.le_of_ble_eq_true rfl⟩ dX12_init_209 (fun H hY => ?_)
  refine y_putF S hK hA hY hn 0 rfl cl_13 47 (Nat.le_of_ble_eq_true rfl) (Nat.le_of_ble_eq_true rfl) mw_1461 rfl ⟨rfl, hnm, rfl⟩ (ty := .array .int) (j := (n + 26)) (by decide +kernel) rfl rfl dX12_init_211 (fun H locs hY => ?_)
  have hY : gx_Y tb ((.inl (13, [none, none, some (some (n + 1)), none, none, some (some (n + 2)), some (some (n + 3)), some (some (n + 4)), some (some (n + 5)), some (some (n + 6)), some (some (n + 7)), some (some (n + 8)), some (some (n + 9)), none, none, none, none, some (some (n + 10)), some (some (n + 11)), some (some (n + 12)), some (some (n + 13)), none, some (some (n + 14)), some (some (n + 15)), none, some (some (n + 16)), some (some (n + 17)), some (some (n + 18)), none, none, some (some (n + 19)), none, none, none, none, none, none, some (some (n + 20)), some (some (n + 21)), some (some (n + 22)), some (some (n + 23)), some (some (n + 24)), none, none, some (some (n + 25)), none, none, some (some (n + 26)), none, none, none, none, none, some none, some none, some none, some none, some none, some none, some none])) :: (M_25 ++ [.inr (0, 4096, [])])) _ E s (σ) τ H _ := hY
  obtain ⟨M_26, e_26, l_26, hY⟩ := y_abs1 l_25 (j := 1) rfl hY
  have l_26 : M_26.length = 26 := l_26
  refine lv_aload_n hx hb dX12_init_214 rfl (lv_at hl 0 rfl) ?_
  refine lv_bipush (v := 10) hx hb dX12_init_215 (by decide) ?_
  refine y_newI S hK hY hn 27 (y_l1 l_26) (N := 10) (by decide) (by decide) (by decide) (fun c9 k9 h9 => h0 c9 k9 (by omega)) mw_141 ⟨Nat.le_of_ble_eq_true rfl, Nat.le_of_ble_eq_true rfl⟩ dX12_init_217 (fun H hY => ?_)
  refine y_putF S hK hA hY hn 0 rfl cl_13 53 (Nat.le_of_ble_eq_true rfl) (Nat.le_of_ble_eq_true rfl) mw_1467 rfl ⟨rfl, hnm, rfl⟩ (ty := .array .int) (j := (n + 27)) (by decide +kernel) rfl rfl dX12_init_219 (fun H locs hY => ?_)
  have hY : gx_Y tb ((.inl (13, [none, none, some (some (n + 1)), none, none, some (some (n + 2)), some (some (n + 3)), some (some (n + 4)), some (some (n + 5)), some (some (n + 6)), some (some (n + 7)), some (some (n + 8)), some (some (n + 9)), none, none, none, none, some (some (n + 10)), some (some (n + 11)), some (some (n + 12)), some (some (n + 13)), none, some (some (n + 14)), some (some (n + 15)), none, some (some (n + 16)), some (some (n + 17)), some (some (n + 18)), none, none, some (some (n + 19)), none, none, none, none, none, none, some (some (n + 20)), some (some (n + 21)), some (some (n + 22)), some (some (n + 23)), some (some (n + 24)), none, none, some (some (n + 25)), none, none, some (some (n + 26)), none, none, none, none, none, some (some (n + 27)), some none, some none, some none, some none, some none, some none])) :: (M_26 ++ [.inr (0, 10, [])])) _ E s (σ) τ H _ := hY
  obtain ⟨M_27, e_27, l_27, hY⟩ := y_abs1 l_26 (j := 1) rfl hY
  have l_27 : M_27.length = 27 := l_27
  refine lv_aload_n hx hb dX12_init_222 rfl (lv_at hl 0 rfl) ?_
  refine lv_bipush (v := 10) hx hb dX12_init_223 (by decide) ?_
  refine y_newI S hK hY hn 28 (y_l1 l_27) (N := 10) (by decide) (by decide) (by decide) (fun c9 k9 h9 => h0 c9 k9 (by omega)) mw_141 ⟨Nat.le_of_ble_eq_true rfl, Nat.le_of_ble_eq_true rfl⟩ dX12_init_225 (fun H hY => ?_)
  refine y_putF S hK hA hY hn 0 rfl cl_13 54 (Nat.le_of_ble_eq_true rfl) (Nat.le_of_ble_eq_true rfl) mw_1468 rfl ⟨rfl, hnm, rfl⟩ (ty := .array .int) (j := (n + 28)) (by decide +kernel) rfl rfl dX12_init_227 (fun H locs hY => ?_)
  have hY : gx_Y tb ((.inl (13, [none, none, some (some (n + 1)), none, none, some (some (n + 2)), some (some (n + 3)), some (some (n + 4)), some (some (n + 5)), some (some (n + 6)), some (some (n + 7)), some (some (n + 8)), some (some (n + 9)), none, none, none, none, some (some (n + 10)), some (some (n + 11)), some (some (n + 12)), some (some (n + 13)), none, some (some (n + 14)), some (some (n + 15)), none, some (some (n + 16)), some (some (n + 17)), some (some (n + 18)), none, none, some (some (n + 19)), none, none, none, none, none, none, some (some (n + 20)), some (some (n + 21)), some (some (n + 22)), some (some (n + 23)), some (some (n + 24)), none, none, some (some (n + 25)), none, none, some (some (n + 26)), none, none, none, none, none, some (some (n + 27)), some (some (n + 28)), some none, some none, some none, some none, some none])) :: (M_27 ++ [.inr (0, 10, [])])) _ E s (σ) τ H _ := hY
  obtain ⟨M_28, e_28, l_28, hY⟩ := y_abs1 l_27 (j := 1) rfl hY
  have l_28 : M_28.length = 28 := l_28
  refine lv_aload_n hx hb dX12_init_230 rfl (lv_at hl 0 rfl) ?_
  refine lv_bipush (v := 10) hx hb dX12_init_231 (by decide) ?_
  refine y_newI S hK hY hn 29 (y_l1 l_28) (N := 10) (by decide) (by decide) (by decide) (fun c9 k9 h9 => h0 c9 k9 (by omega)) mw_141 ⟨Nat.le_of_ble_eq_true rfl, Nat.le_of_ble_eq_true rfl⟩ dX12_init_233 (fun H hY => ?_)
  refine y_putF S hK hA hY hn 0 rfl cl_13 55 (Nat.le_of_ble_eq_true rfl) (Nat.le_of_ble_eq_true rfl) mw_1469 rfl ⟨rfl, hnm, rfl⟩ (ty := .array .int) (j := (n + 29)) (by decide +kernel) rfl rfl dX12_init_235 (fun H locs hY => ?_)
  have hY : gx_Y tb ((.inl (13, [none, none, some (some (n + 1)), none, none, some (some (n + 2)), some (some (n + 3)), some (some (n + 4)), some (some (n + 5)), some (some (n + 6)), some (some (n + 7)), some (some (n + 8)), some (some (n + 9)), none, none, none, none, some (some (n + 10)), some (some (n + 11)), some (some (n + 12)), some (some (n + 13)), none, some (some (n + 14)), some (some (n + 15)), none, some (some (n + 16)), some (some (n + 17)), some (some (n + 18)), none, none, some (some (n + 19)), none, none, none, none, none, none, some (some (n + 20)), some (some (n + 21)), some (some (n + 22)), some (some (n + 23)), some (some (n + 24)), none, none, some (some (n + 25)), none, none, some (some (n + 26)), none, none, none, none, none, some (some (n + 27)), some (some (n + 28)), some (some (n + 29)), some none, some none, some none, some none])) :: (M_28 ++ [.inr (0, 10, [])])) _ E s (σ) τ H _ := hY
  obtain ⟨M_29, e_29, l_29, hY⟩ := y_abs1 l_28 (j := 1) rfl hY
  have l_29 : M_29.length = 29 := l_29
  refine lv_aload_n hx hb dX12_init_238 rfl (lv_at hl 0 rfl) ?_
  refine lv_sipush (v := 4096) hx hb dX12_init_239 (by decide) ?_
  refine y_newZ S hK hY hn 30 (y_l1 l_29) (N := 4096) (by decide) (by decide) (by decide) (fun c9 k9 h9 => h0 c9 k9 (by omega)) mw_446 ⟨Nat.le_of_ble_eq_true rfl, Nat.le_of_ble_eq_true rfl⟩ dX12_init_242 (fun H hY => ?_)
  refine y_putF S hK hA hY hn 0 rfl cl_13 56 (Nat.le_of_ble_eq_true rfl) (Nat.le_of_ble_eq_true rfl) mw_1470 rfl ⟨rfl, hnm, rfl⟩ (ty := .array .boolean) (j := (n + 30)) (by decide +kernel) rfl rfl dX12_init_244 (fun H locs hY => ?_)
  have hY : gx_Y tb ((.inl (13, [none, none, some (some (n + 1)), none, none, some (some (n + 2)), some (some (n + 3)), some (some (n + 4)), some (some (n + 5)), some (some (n + 6)), some (some (n + 7)), some (some (n + 8)), some (some (n + 9)), none, none, none, none, some (some (n + 10)), some (some (n + 11)), some (some (n + 12)), some (some (n + 13)), none, some (some (n + 14)), some (some (n + 15)), none, some (some (n + 16)), some (some (n + 17)), some (some (n + 18)), none, none, some (some (n + 19)), none, none, none, none, none, none, some (some (n + 20)), some (some (n + 21)), some (some (n + 22)), some (some (n + 23)), some (some (n + 24)), none, none, some (some (n + 25)), none, none, some (some (n + 26)), none, none, none, none, none, some (some (n + 27)), some (some (n + 28)), some (some (n + 29)), some (some (n + 30)), some none, some none, some none])) :: (M_29 ++ [.inr (2, 4096, [])])) _ E s (σ) τ H _ := hY
  obtain ⟨M_30, e_30, l_30, hY⟩ := y_abs1 l_29 (j := 1) rfl hY
  have l_30 : M_30.length = 30 := l_30
  refine lv_aload_n hx hb dX12_init_247 rfl (lv_at hl 0 rfl) ?_
  refine lv_bipush (v := 13) hx hb dX12_init_248 (by decide) ?_
  refine y_newI S hK hY hn 31 (y_l1 l_30) (N := 13) (by decide) (by decide) (by decide) (fun c9 k9 h9 => h0 c9 k9 (by omega)) mw_141 ⟨Nat.le_of_ble_eq_true rfl, Nat.le_of_ble_eq_true rfl⟩ dX12_init_250 (fun H hY => ?_)
  refine y_putF S hK hA hY hn 0 rfl cl_13 57 (Nat.le_of_ble_eq_true rfl) (Nat.le_of_ble_eq_true rfl) mw_1471 rfl ⟨rfl, hnm, rfl⟩ (ty := .array .int) (j := (n + 31)) (by decide +kernel) rfl rfl dX12_init_252 (fun H locs hY => ?_)
  have hY : gx_Y tb ((.inl (13, [none, none, some (some (n + 1)), none, none, some (some (n + 2)), some (some (n + 3)), some (some (n + 4)), some (some (n + 5)), some (some (n + 6)), some (some (n + 7)), some (some (n + 8)), some (some (n + 9)), none, none, none, none, some (some (n + 10)), some (some (n + 11)), some (some (n + 12)), some (some (n + 13)), none, some (some (n + 14)), some (some (n + 15)), none, some (some (n + 16)), some (some (n + 17)), some (some (n + 18)), none, none, some (some (n + 19)), none, none, none, none, none, none, some (some (n + 20)), some (some (n + 21)), some (some (n + 22)), some (some (n + 23)), some (some (n + 24)), none, none, some (some (n + 25)), none, none, some (some (n + 26)), none, none, none, none, none, some (some (n + 27)), some (some (n + 28)), some (some (n + 29)), some (some (n + 30)), some (some (n + 31)), some none, some none])) :: (M_30 ++ [.inr (0, 13, [])])) _ E s (σ) τ H _ := hY
  obtain ⟨M_31, e_31, l_31, hY⟩ := y_abs1 l_30 (j := 1) rfl hY
  have l_31 : M_31.length = 31 := l_31
  refine lv_aload_n hx hb dX12_init_255 rfl (lv_at hl 0 rfl) ?_
  refine lv_iconst (v := 3) hx hb dX12_init_256 (by decide) ?_
  refine y_newZ S hK hY hn 32 (y_l1 l_31) (N := 3) (by decide) (by decide) (by decide) (fun c9 k9 h9 => h0 c9 k9 (by omega)) mw_446 ⟨Nat.le_of_ble_eq_true rfl, Nat.le_of_ble_eq_true rfl⟩ dX12_init_257 (fun H hY => ?_)
  refine y_putF S hK hA hY hn 0 rfl cl_13 58 (Nat.le_of_ble_eq_true rfl) (Nat.le_of_ble_eq_true rfl) mw_1472 rfl ⟨rfl, hnm, rfl⟩ (ty := .array .boolean) (j := (n + 32)) (by decide +kernel) rfl rfl dX12_init_259 (fun H locs hY => ?_)
  have hY : gx_Y tb ((.inl (13, [none, none, some (some (n + 1)), none, none, some (some (n + 2)), some (some (n + 3)), some (some (n + 4)), some (some (n + 5)), some (some (n + 6)), some (some (n + 7)), some (some (n + 8)), some (some (n + 9)), none, none, none, none, some (some (n + 10)), some (some (n + 11)), some (some (n + 12)), some (some (n + 13)), none, some (some (n + 14)), some (some (n + 15)), none, some (some (n + 16)), some (some (n + 17)), some (some (n + 18)), none, none, some (some (n + 19)), none, none, none, none, none, none, some (some (n + 20)), some (some (n + 21)), some (some (n + 22)), some (some (n + 23)), some (some (n + 24)), none, none, some (some (n + 25)), none, none, some (some (n + 26)), none, none, none, none, none, some (some (n + 27)), some (some (n + 28)), some (some (n + 29)), some (some (n + 30)), some (some (n + 31)), some (some (n + 32)), some none])) :: (M_31 ++ [.inr (2, 3, [])])) _ E s (σ) τ H _ := hY
  obtain ⟨M_32, e_32, l_32, hY⟩ := y_abs1 l_31 (j := 1) rfl hY
  have l_32 : M_32.length = 32 := l_32
  refine lv_aload_n hx hb dX12_init_262 rfl (lv_at hl 0 rfl) ?_
  refine lv_sipush (v := 135) hx hb dX12_init_263 (by decide) ?_
  refine y_newI S hK hY hn 33 (y_l1 l_32) (N := 135) (by decide) (by decide) (by decide) (fun c9 k9 h9 => h0 c9 k9 (by omega)) mw_141 ⟨Nat.le_of_ble_eq_true rfl, Nat.le_of_ble_eq_true rfl⟩ dX12_init_266 (fun H hY => ?_)
  refine y_putF S hK hA hY hn 0 rfl cl_13 59 (Nat.le_of_ble_eq_true rfl) (Nat.le_of_ble_eq_true rfl) mw_1473 rfl ⟨rfl, hnm, rfl⟩ (ty := .array .int) (j := (n + 33)) (by decide +kernel) rfl rfl dX12_init_268 (fun H locs hY => ?_)
  have hY : gx_Y tb ((.inl (13, [none, none, some (some (n + 1)), none, none, some (some (n + 2)), some (some (n + 3)), some (some (n + 4)), some (some (n + 5)), some (some (n + 6)), some (some (n + 7)), some (some (n + 8)), some (some (n + 9)), none, none, none, none, some (some (n + 10)), some (some (n + 11)), some (some (n + 12)), some (some (n + 13)), none, some (some (n + 14)), some (some (n + 15)), none, some (some (n + 16)), some (some (n + 17)), some (some (n + 18)), none, none, some (some (n + 19)), none, none, none, none, none, none, some (some (n + 20)), some (some (n + 21)), some (some (n + 22)), some (some (n + 23)), some (some (n + 24)), none, none, some (some (n + 25)), none, none, some (some (n + 26)), none, none, none, none, none, some (some (n + 27)), some (some (n + 28)), some (some (n + 29)), some (some (n + 30)), some (some (n + 31)), some (some (n + 32)), some (some (n + 33))])) :: (M_32 ++ [.inr (0, 135, [])])) _ E s (σ) τ H _ := hY
  obtain ⟨M_33, e_33, l_33, hY⟩ := y_abs1 l_32 (j := 1) rfl hY
  have l_33 : M_33.length = 33 := l_33
  have q : (.inl (13, [none, none, some (some (n + 1)), none, none, some (some (n + 2)), some (some (n + 3)), some (some (n + 4)), some (some (n + 5)), some (some (n + 6)), some (some (n + 7)), some (some (n + 8)), some (some (n + 9)), none, none, none, none, some (some (n + 10)), some (some (n + 11)), some (some (n + 12)), some (some (n + 13)), none, some (some (n + 14)), some (some (n + 15)), none, some (some (n + 16)), some (some (n + 17)), some (some (n + 18)), none, none, some (some (n + 19)), none, none, none, none, none, none, some (some (n + 20)), some (some (n + 21)), some (some (n + 22)), some (some (n + 23)), some (some (n + 24)), none, none, some (some (n + 25)), none, none, some (some (n + 26)), none, none, none, none, none, some (some (n + 27)), some (some (n + 28)), some (some (n + 29)), some (some (n + 30)), some (some (n + 31)), some (some (n + 32)), some (some (n + 33))])) :: M_33 = b_M n := by
    rw [e_33, e_32, e_31, e_30, e_29, e_28, e_27, e_26, e_25, e_24, e_23, e_22, e_21, e_20, e_19, e_18, e_17, e_16, e_15, e_14, e_13, e_12, e_11, e_10, e_9, e_8, e_7, e_6, e_5, e_4, e_3, e_2, e_1, e_0]
    simp only [List.append_assoc, List.nil_append, List.cons_append]
    rfl
  have hY := y_cv q hY
  exact y_r S hr hlk hY dX12_init_271
