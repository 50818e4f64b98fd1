theorem fr_H_X12_order_117 (N : Nat) (rec_94 : gI → gJ → Int32 → Int32 → Int32 → Int32 → Int32 → Int32 → Int32 → Int32 → Option (Int32 × gI × gJ)) (hrec_94 : ∀ (σ : gI) (τ : gJ) (x1 : Int32) (x2 : Int32) (x3 : Int32) (x4 : Int32) (x5 : Int32) (x6 : Int32) (x7 : Int32) (x8 : Int32) (r : Int32) (σ1 : gI) (τ1 : gJ), rec_94 σ τ x1 x2 x3 x4 x5 x6 x7 x8 = some (r, σ1, τ1) → (∀ c k : Nat, ¬ (c = 206 ∨ c = 207 ∨ c = 218 ∨ (c = 199 ∧ (k = 0 ∨ k = 1 ∨ k = 34))) → σ1 c k = σ c k) ∧ (∀ c k : Nat, c ≠ 200 → τ1 c k = τ c k)) : ∀ (n : Nat) (σ : gI) (τ : gJ) (x1 : Int32) (x2 : Int32) (x3 : Int32) (x4 : Int32) (x5 : Int32) (x6 : Int32) (x7 : Int32) (x8 : Int32) (x9 : Int32) (r : Int32) (σ1 : gI) (τ1 : gJ), H_X12_order_117 N rec_94 n σ τ x1 x2 x3 x4 x5 x6 x7 x8 x9 = some (r, σ1, τ1) → (∀ c k : Nat, ¬ (c = 206 ∨ c = 207 ∨ c = 218 ∨ (c = 199 ∧ (k = 0 ∨ k = 1 ∨ k = 34))) → σ1 c k = σ c k) ∧ (∀ c k : Nat, c ≠ 200 → τ1 c k = τ c k) := by
  intro n
  induction n with
  | zero => intro σ τ x1 x2 x3 x4 x5 x6 x7 x8 x9 r σ1 τ1 h; cases h
  | succ n ih =>
    intro σ τ x1 x2 x3 x4 x5 x6 x7 x8 x9 r σ1 τ1 h
    exact fr_C_X12_order_117 N rec_94 hrec_94 (H_X12_order_117 N rec_94 n) ih σ τ x1 x2 x3 x4 x5 x6 x7 x8 x9 h
set_option maxHeartbeats 2000000 in
theorem fr_C_X12_order_94 (N : Nat) (rec_94 : gI → gJ → Int32 → Int32 → Int32 → Int32 → Int32 → Int32 → Int32 → Int32 → Option (Int32 × gI × gJ)) (hrec_94 : ∀ (σ : gI) (τ : gJ) (x1 : Int32) (x2 : Int32) (x3 : Int32) (x4 : Int32) (x5 : Int32) (x6 : Int32) (x7 : Int32) (x8 : Int32) (r : Int32) (σ1 : gI) (τ1 : gJ), rec_94 σ τ x1 x2 x3 x4 x5 x6 x7 x8 = some (r, σ1, τ1) → (∀ c k : Nat, ¬ (c = 206 ∨ c = 207 ∨ c = 218 ∨ (c = 199 ∧ (k = 0 ∨ k = 1 ∨ k = 34))) → σ1 c k = σ c k) ∧ (∀ c k : Nat, c ≠ 200 → τ1 c k = τ c k)) (σ : gI) (τ : gJ) (x1 : Int32) (x2 : Int32) (x3 : Int32) (x4 : Int32) (x5 : Int32) (x6 : Int32) (x7 : Int32) (x8 : Int32) {r : Int32} {σ1 : gI} {τ1 : gJ} (h : C_X12_order_94 N rec_94 σ τ x1 x2 x3 x4 x5 x6 x7 x8 = some (r, σ1, τ1)) : (∀ c k : Nat, ¬ (c = 206 ∨ c = 207 ∨ c = 218 ∨ (c = 199 ∧ (k = 0 ∨ k = 1 ∨ k = 34))) → σ1 c k = σ c k) ∧ (∀ c k : Nat, c ≠ 200 → τ1 c k = τ c k) := by
  unfold C_X12_order_94 at h
  by_cases c_1 : 18 < x8
  · rw [if_pos c_1] at h
    have f9 := fr_B_X12_order_222 N σ τ x1 x2 x3 x4 x5 x6 x7 h
    refine ⟨fun c k hn => (f9.1 c k hn).trans ?_, fun c k hn => (f9.2 c k hn).trans ?_⟩
    · rfl
    · rfl
  · rw [if_neg c_1] at h
    by_cases c_2 : 0 ≤ x5
    · rw [if_pos c_2] at h
      have f9 := fr_B_X12_order_222 N σ τ x1 x2 x3 x4 x5 x6 x7 h
      refine ⟨fun c k hn => (f9.1 c k hn).trans ?_, fun c k hn => (f9.2 c k hn).trans ?_⟩
      · rfl
      · rfl
    · rw [if_neg c_2] at h
      obtain ⟨v_3, e_3, h⟩ := nm_some h
      have f9 := fr_H_X12_order_117 N rec_94 hrec_94 N σ τ x1 x2 x3 x4 x5 x6 x7 x8 v_3 _ _ _ h
      refine ⟨fun c k hn => (f9.1 c k hn).trans ?_, fun c k hn => (f9.2 c k hn).trans ?_⟩
      · rfl
      · rfl
theorem fr_H_X12_order_94 (N : Nat) : ∀ (n : Nat) (σ : gI) (τ : gJ) (x1 : Int32) (x2 : Int32) (x3 : Int32) (x4 : Int32) (x5 : Int32) (x6 : Int32) (x7 : Int32) (x8 : Int32) (r : Int32) (σ1 : gI) (τ1 : gJ), H_X12_order_94 N n σ τ x1 x2 x3 x4 x5 x6 x7 x8 = some (r, σ1, τ1) → (∀ c k : Nat, ¬ (c = 206 ∨ c = 207 ∨ c = 218 ∨ (c = 199 ∧ (k = 0 ∨ k = 1 ∨ k = 34))) → σ1 c k = σ c k) ∧ (∀ c k : Nat, c ≠ 200 → τ1 c k = τ c k) := by
  intro n
  induction n with
  | zero => intro σ τ x1 x2 x3 x4 x5 x6 x7 x8 r σ1 τ1 h; cases h
  | succ n ih =>
    intro σ τ x1 x2 x3 x4 x5 x6 x7 x8 r σ1 τ1 h
    exact fr_C_X12_order_94 N (H_X12_order_94 N n) ih σ τ x1 x2 x3 x4 x5 x6 x7 x8 h
set_option maxHeartbeats 2000000 in
theorem fr_B_X12_order_0 (N : Nat) (σ : gI) (τ : gJ) (x1 : Int32) (x2 : Int32) {r : Int32} {σ1 : gI} {τ1 : gJ} (h : B_X12_order_0 N σ τ x1 x2 = some (r, σ1, τ1)) : (∀ c k : Nat, ¬ (c = 206 ∨ c = 207 ∨ c = 218 ∨ (c = 199 ∧ (k = 0 ∨ k = 1 ∨ k = 34))) → σ1 c k = σ c k) ∧ (∀ c k : Nat, c ≠ 200 → τ1 c k = τ c k) := by
  unfold B_X12_order_0 at h
  obtain ⟨σ_1, e_1, h⟩ := nm_some h
  obtain ⟨r_2, σ_2, τ_2, q_2, h⟩ := bd_some h
  have f_2 := fr_B_X12_isThing_0 N σ_1 τ x1 q_2
  by_cases c_1 : r_2 = 0
  · rw [if_pos c_1] at h
    obtain ⟨rfl, rfl, rfl⟩ := sm_inj h
    refine ⟨fun c k hn => ?_, fun c k hn => ?_⟩
    · rw [f_2.1 c k id, e_1, up2_ne (by omega)]
    · rw [f_2.2 c k]
  · rw [if_neg c_1] at h
    obtain ⟨r_4, σ_4, τ_4, q_4, h⟩ := bd_some h
    have f_4 := fr_B_X12_isThing_0 N σ_2 τ_2 x2 q_4
    by_cases c_2 : r_4 = 0
    · rw [if_pos c_2] at h
      obtain ⟨rfl, rfl, rfl⟩ := sm_inj h
      refine ⟨fun c k hn => ?_, fun c k hn => ?_⟩
      · rw [f_4.1 c k id, f_2.1 c k id, e_1, up2_ne (by omega)]
      · rw [f_4.2 c k, f_2.2 c k]
    · rw [if_neg c_2] at h
      by_cases c_3 : x1 = x2
      · rw [if_pos c_3] at h
        obtain ⟨rfl, rfl, rfl⟩ := sm_inj h
        refine ⟨fun c k hn => ?_, fun c k hn => ?_⟩
        · rw [f_4.1 c k id, f_2.1 c k id, e_1, up2_ne (by omega)]
        · rw [f_4.2 c k, f_2.2 c k]
      · rw [if_neg c_3] at h
        obtain ⟨j_7, -, -, h⟩ := ck_some h
        by_cases c_4 : σ_4 206 j_7 = 0
        · rw [if_pos c_4] at h
          obtain ⟨j_9, -, -, h⟩ := ck_some h
          by_cases c_5 : σ_4 206 j_9 = 0
          · rw [if_pos c_5] at h
            obtain ⟨j_11, -, -, h⟩ := ck_some h
            obtain ⟨v_12, e_12, h⟩ := nm_some h
            obtain ⟨j_13, -, -, h⟩ := ck_some h
            obtain ⟨v_14, e_14, h⟩ := nm_some h
            have f9 := fr_H_X12_order_94 N N σ_4 τ_4 x1 x2 v_12 v_14 (-2) 0 0 0 _ _ _ h
            refine ⟨fun c k hn => (f9.1 c k hn).trans ?_, fun c k hn => (f9.2 c k hn).trans ?_⟩
            · rw [f_4.1 c k id, f_2.1 c k id, e_1, up2_ne (by omega)]
            · rw [f_4.2 c k, f_2.2 c k]
          · rw [if_neg c_5] at h
            obtain ⟨rfl, rfl, rfl⟩ := sm_inj h
            refine ⟨fun c k hn => ?_, fun c k hn => ?_⟩
            · rw [f_4.1 c k id, f_2.1 c k id, e_1, up2_ne (by omega)]
            · rw [f_4.2 c k, f_2.2 c k]
        · rw [if_neg c_4] at h
          obtain ⟨rfl, rfl, rfl⟩ := sm_inj h
          refine ⟨fun c k hn => ?_, fun c k hn => ?_⟩
          · rw [f_4.1 c k id, f_2.1 c k id, e_1, up2_ne (by omega)]
          · rw [f_4.2 c k, f_2.2 c k]
set_option maxHeartbeats 2000000 in
theorem fr_C_X12_place_109 (N : Nat) (rec_109 : gI → gJ → Int32 → Int32 → Int32 → Option (Int32 × gI × gJ)) (hrec_109 : ∀ (σ : gI) (τ : gJ) (x1 : Int32) (x3 : Int32) (x4 : Int32) (r : Int32) (σ1 : gI) (τ1 : gJ), rec_109 σ τ x1 x3 x4 = some (r, σ1, τ1) → (∀ c k : Nat, ¬ ((c = 199 ∧ (k = 0))) → σ1 c k = σ c k) ∧ (∀ c k : Nat, τ1 c k = τ c k)) (σ : gI) (τ : gJ) (x1 : Int32) (x3 : Int32) (x4 : Int32) {r : Int32} {σ1 : gI} {τ1 : gJ} (h : C_X12_place_109 N rec_109 σ τ x1 x3 x4 = some (r, σ1, τ1)) : (∀ c k : Nat, ¬ ((c = 199 ∧ (k = 0))) → σ1 c k = σ c k) ∧ (∀ c k : Nat, τ1 c k = τ c k) := by
  unfold C_X12_place_109 at h
  by_cases c_1 : σ 206 44 ≤ x4
  · rw [if_pos c_1] at h
    obtain ⟨rfl, rfl, rfl⟩ := sm_inj h
    refine ⟨fun c k hn => ?_, fun c k => ?_⟩
    · rfl
    · rfl
  · rw [if_neg c_1] at h
    obtain ⟨j_2, -, -, h⟩ := ck_some h
    by_cases c_2 : σ 206 j_2 = 0
    · rw [if_pos c_2] at h
      obtain ⟨j_6, -, -, h⟩ := ck_some h
      by_cases c_3 : σ 206 j_6 = x1
      · rw [if_pos c_3] at h
        obtain ⟨v_10, e_10, h⟩ := nm_some h
        obtain ⟨v_11, e_11, h⟩ := nm_some h
        have f9 := hrec_109 σ τ x1 v_10 v_11 _ _ _ h
        refine ⟨fun c k hn => (f9.1 c k hn).trans ?_, fun c k => (f9.2 c k).trans ?_⟩
        · rfl
        · rfl
      · rw [if_neg c_3] at h
        obtain ⟨v_8, e_8, h⟩ := nm_some h
        obtain ⟨v_9, e_9, h⟩ := nm_some h
        have f9 := hrec_109 σ τ x1 v_8 v_9 _ _ _ h
        refine ⟨fun c k hn => (f9.1 c k hn).trans ?_, fun c k => (f9.2 c k).trans ?_⟩
        · rfl
        · rfl
    · rw [if_neg c_2] at h
      obtain ⟨v_4, e_4, h⟩ := nm_some h
      obtain ⟨v_5, e_5, h⟩ := nm_some h
      have f9 := hrec_109 σ τ x1 v_4 v_5 _ _ _ h
      refine ⟨fun c k hn => (f9.1 c k hn).trans ?_, fun c k => (f9.2 c k).trans ?_⟩
      · rfl
      · rfl
theorem fr_H_X12_place_109 (N : Nat) : ∀ (n : Nat) (σ : gI) (τ : gJ) (x1 : Int32) (x3 : Int32) (x4 : Int32) (r : Int32) (σ1 : gI) (τ1 : gJ), H_X12_place_109 N n σ τ x1 x3 x4 = some (r, σ1, τ1) → (∀ c k : Nat, ¬ ((c = 199 ∧ (k = 0))) → σ1 c k = σ c k) ∧ (∀ c k : Nat, τ1 c k = τ c k) := by
  intro n
  induction n with
  | zero => intro σ τ x1 x3 x4 r σ1 τ1 h; cases h
  | succ n ih =>
    intro σ τ x1 x3 x4 r σ1 τ1 h
    exact fr_C_X12_place_109 N (H_X12_place_109 N n) ih σ τ x1 x3 x4 h
set_option maxHeartbeats 2000000 in
theorem fr_B_X12_place_0 (N : Nat) (σ : gI) (τ : gJ) (x1 : Int32) (x2 : Int32) {r : Int32} {σ1 : gI} {τ1 : gJ} (h : B_X12_place_0 N σ τ x1 x2 = some (r, σ1, τ1)) : (∀ c k : Nat, ¬ ((c = 199 ∧ (k = 0))) → σ1 c k = σ c k) ∧ (∀ c k : Nat, τ1 c k = τ c k) := by
  unfold B_X12_place_0 at h
  obtain ⟨σ_1, e_1, h⟩ := nm_some h
  obtain ⟨r_2, σ_2, τ_2, q_2, h⟩ := bd_some h
  have f_2 := fr_B_X12_isPlace_0 N σ_1 τ x1 q_2
  by_cases c_1 : r_2 = 0
  · rw [if_pos c_1] at h
    obtain ⟨r_4, σ_4, τ_4, q_4, h⟩ := bd_some h
    have f_4 := fr_B_X12_refuse_0 N σ_2 τ_2 q_4
    obtain ⟨rfl, rfl, rfl⟩ := sm_inj h
    refine ⟨fun c k hn => ?_, fun c k => ?_⟩
    · rw [f_4.1 c k (by omega), f_2.1 c k id, e_1, up2_ne (by omega)]
    · rw [f_4.2 c k, f_2.2 c k]
  · rw [if_neg c_1] at h
    obtain ⟨r_5, σ_5, τ_5, q_5, h⟩ := bd_some h
    have f_5 := fr_B_X12_in_0 N σ_2 τ_2 x2.toInt64 0 5 q_5
    by_cases c_2 : r_5 = 0
    · rw [if_pos c_2] at h
      obtain ⟨r_16, σ_16, τ_16, q_16, h⟩ := bd_some h
      have f_16 := fr_B_X12_refuse_0 N σ_5 τ_5 q_16
      obtain ⟨rfl, rfl, rfl⟩ := sm_inj h
      refine ⟨fun c k hn => ?_, fun c k => ?_⟩
      · rw [f_16.1 c k (by omega), f_5.1 c k id, f_2.1 c k id, e_1, up2_ne (by omega)]
      · rw [f_16.2 c k, f_5.2 c k, f_2.2 c k]
    · rw [if_neg c_2] at h
      by_cases c_3 : x2 = 0
      · rw [if_pos c_3] at h
        obtain ⟨j_8, -, -, h⟩ := ck_some h
        obtain ⟨rfl, rfl, rfl⟩ := sm_inj h
        refine ⟨fun c k hn => ?_, fun c k => ?_⟩
        · rw [f_5.1 c k id, f_2.1 c k id, e_1, up2_ne (by omega)]
        · rw [f_5.2 c k, f_2.2 c k]
      · rw [if_neg c_3] at h
        by_cases c_4 : x2 = 1
        · rw [if_pos c_4] at h
          obtain ⟨j_10, -, -, h⟩ := ck_some h
          obtain ⟨rfl, rfl, rfl⟩ := sm_inj h
          refine ⟨fun c k hn => ?_, fun c k => ?_⟩
          · rw [f_5.1 c k id, f_2.1 c k id, e_1, up2_ne (by omega)]
          · rw [f_5.2 c k, f_2.2 c k]
        · rw [if_neg c_4] at h
          by_cases c_5 : x2 = 2
          · rw [if_pos c_5] at h
            obtain ⟨j_12, -, -, h⟩ := ck_some h
            obtain ⟨rfl, rfl, rfl⟩ := sm_inj h
            refine ⟨fun c k hn => ?_, fun c k => ?_⟩
            · rw [f_5.1 c k id, f_2.1 c k id, e_1, up2_ne (by omega)]
            · rw [f_5.2 c k, f_2.2 c k]
          · rw [if_neg c_5] at h
            by_cases c_6 : x2 = 3
            · rw [if_pos c_6] at h
              obtain ⟨rfl, rfl, rfl⟩ := sm_inj h
              refine ⟨fun c k hn => ?_, fun c k => ?_⟩
              · rw [f_5.1 c k id, f_2.1 c k id, e_1, up2_ne (by omega)]
              · rw [f_5.2 c k, f_2.2 c k]
            · rw [if_neg c_6] at h
              by_cases c_7 : x2 = 4
              · rw [if_pos c_7] at h
                obtain ⟨j_15, -, -, h⟩ := ck_some h
                obtain ⟨rfl, rfl, rfl⟩ := sm_inj h
                refine ⟨fun c k hn => ?_, fun c k => ?_⟩
                · rw [f_5.1 c k id, f_2.1 c k id, e_1, up2_ne (by omega)]
                · rw [f_5.2 c k, f_2.2 c k]
              · rw [if_neg c_7] at h
                have f9 := fr_H_X12_place_109 N N σ_5 τ_5 x1 0 0 _ _ _ h
                refine ⟨fun c k hn => (f9.1 c k hn).trans ?_, fun c k => (f9.2 c k).trans ?_⟩
                · rw [f_5.1 c k id, f_2.1 c k id, e_1, up2_ne (by omega)]
                · rw [f_5.2 c k, f_2.2 c k]
set_option maxHeartbeats 2000000 in
theorem fr_B_X12_plank_0 (N : Nat) (σ : gI) (τ : gJ) (x1 : Int32) (x2 : Int32) {r : Int32} {σ1 : gI} {τ1 : gJ} (h : B_X12_plank_0 N σ τ x1 x2 = some (r, σ1, τ1)) : (∀ c k : Nat, ¬ (c = 206 ∨ c = 219 ∨ (c = 199 ∧ (k = 0 ∨ k = 36))) → σ1 c k = σ c k) ∧ (∀ c k : Nat, τ1 c k = τ c k) := by
  unfold B_X12_plank_0 at h
  obtain ⟨σ_1, e_1, h⟩ := nm_some h
  obtain ⟨r_2, σ_2, τ_2, q_2, h⟩ := bd_some h
  have f_2 := fr_B_X12_isFork_0 N σ_1 τ x1 q_2
  by_cases c_1 : r_2 = 0
  · rw [if_pos c_1] at h
    obtain ⟨rfl, rfl, rfl⟩ := sm_inj h
    refine ⟨fun c k hn => ?_, fun c k => ?_⟩
    · rw [f_2.1 c k id, e_1, up2_ne (by omega)]
    · rw [f_2.2 c k]
  · rw [if_neg c_1] at h
    obtain ⟨r_4, σ_4, τ_4, q_4, h⟩ := bd_some h
    have f_4 := fr_B_X12_in_0 N σ_2 τ_2 x2.toInt64 0 1 q_4
    by_cases c_2 : r_4 = 0
    · rw [if_pos c_2] at h
      obtain ⟨rfl, rfl, rfl⟩ := sm_inj h
      refine ⟨fun c k hn => ?_, fun c k => ?_⟩
      · rw [f_4.1 c k id, f_2.1 c k id, e_1, up2_ne (by omega)]
      · rw [f_4.2 c k, f_2.2 c k]
    · rw [if_neg c_2] at h
      obtain ⟨r_6, σ_6, τ_6, q_6, h⟩ := bd_some h
      have f_6 := fr_B_X12_putsBy_0 N σ_4 τ_4 q_6
      obtain ⟨σ_7, e_7, h⟩ := nm_some h
      obtain ⟨r_8, σ_8, τ_8, q_8, h⟩ := bd_some h
      have f_8 := fr_B_X12_adds_0 N σ_7 τ_6 1 q_8
      by_cases c_3 : r_8 = 1
      · rw [if_pos c_3] at h
        obtain ⟨rfl, rfl, rfl⟩ := sm_inj h
        refine ⟨fun c k hn => ?_, fun c k => ?_⟩
        · rw [f_8.1 c k (by omega), e_7, up2_ne (by omega), f_6.1 c k (by omega), f_4.1 c k id, f_2.1 c k id, e_1, up2_ne (by omega)]
        · rw [f_8.2 c k, f_6.2 c k, f_4.2 c k, f_2.2 c k]
      · rw [if_neg c_3] at h
        obtain ⟨rfl, rfl, rfl⟩ := sm_inj h
        refine ⟨fun c k hn => ?_, fun c k => ?_⟩
        · rw [f_8.1 c k (by omega), e_7, up2_ne (by omega), f_6.1 c k (by omega), f_4.1 c k id, f_2.1 c k id, e_1, up2_ne (by omega)]
        · rw [f_8.2 c k, f_6.2 c k, f_4.2 c k, f_2.2 c k]
set_option maxHeartbeats 2000000 in
theorem fr_B_X12_put_0 (N : Nat) (σ : gI) (τ : gJ) (x1 : Int32) (x2 : Int32) (x3 : Int32) (x4 : Int32) {r : Int32} {σ1 : gI} {τ1 : gJ} (h : B_X12_put_0 N σ τ x1 x2 x3 x4 = some (r, σ1, τ1)) : (∀ c k : Nat, ¬ (c = 206 ∨ c = 219 ∨ (c = 199 ∧ (k = 0 ∨ k = 36))) → σ1 c k = σ c k) ∧ (∀ c k : Nat, τ1 c k = τ c k) := by
  unfold B_X12_put_0 at h
  obtain ⟨σ_1, e_1, h⟩ := nm_some h
  obtain ⟨r_2, σ_2, τ_2, q_2, h⟩ := bd_some h
  have f_2 := fr_B_X12_putsBy_0 N σ_1 τ q_2
  obtain ⟨r_3, σ_3, τ_3, q_3, h⟩ := bd_some h
  have f_3 := fr_B_X12_comesNow_0 N σ_2 τ_2 x1 x2 x3 x4 q_3
  by_cases c_1 : 0 ≤ r_3
  · rw [if_pos c_1] at h
    obtain ⟨r_5, σ_5, τ_5, q_5, h⟩ := bd_some h
    have f_5 := fr_B_X12_adds_0 N σ_3 τ_3 r_3 q_5
    obtain ⟨rfl, rfl, rfl⟩ := sm_inj h
    refine ⟨fun c k hn => ?_, fun c k => ?_⟩
    · rw [f_5.1 c k (by omega), f_3.1 c k (by omega), f_2.1 c k (by omega), e_1, up2_ne (by omega)]
    · rw [f_5.2 c k, f_3.2 c k, f_2.2 c k]
  · rw [if_neg c_1] at h
    obtain ⟨rfl, rfl, rfl⟩ := sm_inj h
    refine ⟨fun c k hn => ?_, fun c k => ?_⟩
    · rw [f_3.1 c k (by omega), f_2.1 c k (by omega), e_1, up2_ne (by omega)]
    · rw [f_3.2 c k, f_2.2 c k]
set_option maxHeartbeats 2000000 in
theorem fr_B_X12_readsLetter_0 (N : Nat) (σ : gI) (τ : gJ) {r : Int32} {σ1 : gI} {τ1 : gJ} (h : B_X12_readsLetter_0 N σ τ = some (r, σ1, τ1)) : (∀ c k : Nat, ¬ (c = 213 ∨ c = 214 ∨ (c = 199 ∧ (k = 14 ∨ k = 24))) → σ1 c k = σ c k) ∧ (∀ c k : Nat, τ1 c k = τ c k) := by
  unfold B_X12_readsLetter_0 at h
  obtain ⟨r_1, σ_1, τ_1, q_1, h⟩ := bd_some h
  have f_1 := fr_B_X12_takesOf_0 N sb_10 σ τ q_1
  by_cases c_1 : r_1 < 0
  · rw [if_pos c_1] at h
    obtain ⟨rfl, rfl, rfl⟩ := sm_inj h
    refine ⟨fun c k hn => ?_, fun c k => ?_⟩
    · rw [f_1.1 c k (by omega)]
    · rw [f_1.2 c k]
  · rw [if_neg c_1] at h
    obtain ⟨j_3, -, -, h⟩ := ck_some h
    obtain ⟨σ_4, e_4, h⟩ := nm_some h
    obtain ⟨j_5, -, -, h⟩ := ck_some h
    obtain ⟨σ_6, e_6, h⟩ := nm_some h
    obtain ⟨σ_7, e_7, h⟩ := nm_some h
    obtain ⟨rfl, rfl, rfl⟩ := sm_inj h
    refine ⟨fun c k hn => ?_, fun c k => ?_⟩
    · rw [e_7, up2_ne (by omega), e_6, up2_ne (by omega), e_4, up2_ne (by omega), f_1.1 c k (by omega)]
    · rw [f_1.2 c k]
set_option maxHeartbeats 2000000 in
theorem fr_B_X12_readsThing_0 (N : Nat) (me_readsThing : gI → gJ → Option (Int32 × gI × gJ)) (hme_readsThing : ∀ (σ : gI) (τ : gJ) (r : Int32) (σ1 : gI) (τ1 : gJ), me_readsThing σ τ = some (r, σ1, τ1) → (∀ c k : Nat, ¬ (c = 217 ∨ (c = 199 ∧ (k = 14 ∨ k = 16 ∨ k = 29))) → σ1 c k = σ c k) ∧ (∀ c k : Nat, τ1 c k = τ c k)) (me_readsRank : gI → gJ → Int32 → Option (Int32 × gI × gJ)) (hme_readsRank : ∀ (σ : gI) (τ : gJ) (x1 : Int32) (r : Int32) (σ1 : gI) (τ1 : gJ), me_readsRank σ τ x1 = some (r, σ1, τ1) → (∀ c k : Nat, ¬ (c = 217 ∨ (c = 199 ∧ (k = 14 ∨ k = 16 ∨ k = 29))) → σ1 c k = σ c k) ∧ (∀ c k : Nat, τ1 c k = τ c k)) (σ : gI) (τ : gJ) {r : Int32} {σ1 : gI} {τ1 : gJ} (h : B_X12_readsThing_0 me_readsThing me_readsRank N σ τ = some (r, σ1, τ1)) : (∀ c k : Nat, ¬ (c = 217 ∨ (c = 199 ∧ (k = 14 ∨ k = 16 ∨ k = 29))) → σ1 c k = σ c k) ∧ (∀ c k : Nat, τ1 c k = τ c k) := by
  unfold B_X12_readsThing_0 at h
  obtain ⟨r_1, σ_1, τ_1, q_1, h⟩ := bd_some h
  have f_1 := fr_B_X12_takes_0 N σ τ 45 q_1
  by_cases c_1 : r_1 = 0
  · rw [if_pos c_1] at h
    obtain ⟨r_3, σ_3, τ_3, q_3, h⟩ := bd_some h
    have f_3 := fr_B_X12_isDigit_0 N σ_1 τ_1 q_3
    by_cases c_2 : r_3 = 0
    · rw [if_pos c_2] at h
      obtain ⟨r_5, σ_5, τ_5, q_5, h⟩ := bd_some h
      have f_5 := fr_B_X12_takesOf_0 N sb_15 σ_3 τ_3 q_5
      by_cases c_3 : r_5 < 0
      · rw [if_pos c_3] at h
        by_cases c_4 : σ_5 199 16 = 4
        · rw [if_pos c_4] at h
          obtain ⟨rfl, rfl, rfl⟩ := sm_inj h
          refine ⟨fun c k hn => ?_, fun c k => ?_⟩
          · rw [f_5.1 c k (by omega), f_3.1 c k id, f_1.1 c k (by omega)]
          · rw [f_5.2 c k, f_3.2 c k, f_1.2 c k]
        · rw [if_neg c_4] at h
          obtain ⟨r_8, σ_8, τ_8, q_8, h⟩ := bd_some h
          have f_8 := fr_B_X12_takes_0 N σ_5 τ_5 40 q_8
          by_cases c_5 : r_8 = 0
          · rw [if_pos c_5] at h
            obtain ⟨rfl, rfl, rfl⟩ := sm_inj h
            refine ⟨fun c k hn => ?_, fun c k => ?_⟩
            · rw [f_8.1 c k (by omega), f_5.1 c k (by omega), f_3.1 c k id, f_1.1 c k (by omega)]
            · rw [f_8.2 c k, f_5.2 c k, f_3.2 c k, f_1.2 c k]
          · rw [if_neg c_5] at h
            obtain ⟨σ_10, e_10, h⟩ := nm_some h
            obtain ⟨r_11, σ_11, τ_11, q_11, h⟩ := bd_some h
            have f_11 := hme_readsRank σ_10 τ_8 0 _ _ _ q_11
            by_cases c_6 : r_11 = 0
            · rw [if_pos c_6] at h
              obtain ⟨rfl, rfl, rfl⟩ := sm_inj h
              refine ⟨fun c k hn => ?_, fun c k => ?_⟩
              · rw [f_11.1 c k (by omega), e_10, up2_ne (by omega), f_8.1 c k (by omega), f_5.1 c k (by omega), f_3.1 c k id, f_1.1 c k (by omega)]
              · rw [f_11.2 c k, f_8.2 c k, f_5.2 c k, f_3.2 c k, f_1.2 c k]
            · rw [if_neg c_6] at h
              obtain ⟨r_13, σ_13, τ_13, q_13, h⟩ := bd_some h
              have f_13 := fr_B_X12_takes_0 N σ_11 τ_11 41 q_13
              by_cases c_7 : r_13 = 0
              · rw [if_pos c_7] at h
                obtain ⟨rfl, rfl, rfl⟩ := sm_inj h
                refine ⟨fun c k hn => ?_, fun c k => ?_⟩
                · rw [f_13.1 c k (by omega), f_11.1 c k (by omega), e_10, up2_ne (by omega), f_8.1 c k (by omega), f_5.1 c k (by omega), f_3.1 c k id, f_1.1 c k (by omega)]
                · rw [f_13.2 c k, f_11.2 c k, f_8.2 c k, f_5.2 c k, f_3.2 c k, f_1.2 c k]
              · rw [if_neg c_7] at h
                obtain ⟨σ_15, e_15, h⟩ := nm_some h
                obtain ⟨rfl, rfl, rfl⟩ := sm_inj h
                refine ⟨fun c k hn => ?_, fun c k => ?_⟩
                · rw [e_15, up2_ne (by omega), f_13.1 c k (by omega), f_11.1 c k (by omega), e_10, up2_ne (by omega), f_8.1 c k (by omega), f_5.1 c k (by omega), f_3.1 c k id, f_1.1 c k (by omega)]
                · rw [f_13.2 c k, f_11.2 c k, f_8.2 c k, f_5.2 c k, f_3.2 c k, f_1.2 c k]
      · rw [if_neg c_3] at h
        obtain ⟨r_16, σ_16, τ_16, q_16, h⟩ := bd_some h
        have f_16 := fr_B_X12_codes_0 N σ_5 τ_5 (1000 + r_5) q_16
        obtain ⟨rfl, rfl, rfl⟩ := sm_inj h
        refine ⟨fun c k hn => ?_, fun c k => ?_⟩
        · rw [f_16.1 c k (by omega), f_5.1 c k (by omega), f_3.1 c k id, f_1.1 c k (by omega)]
        · rw [f_16.2 c k, f_5.2 c k, f_3.2 c k, f_1.2 c k]
    · rw [if_neg c_2] at h
      obtain ⟨r_17, σ_17, τ_17, q_17, h⟩ := bd_some h
      have f_17 := fr_B_X12_numberOf_0 N σ_3 τ_3 3 q_17
      obtain ⟨r_18, σ_18, τ_18, q_18, h⟩ := bd_some h
      have f_18 := fr_B_X12_codes_0 N σ_17 τ_17 r_17 q_18
      obtain ⟨rfl, rfl, rfl⟩ := sm_inj h
      refine ⟨fun c k hn => ?_, fun c k => ?_⟩
      · rw [f_18.1 c k (by omega), f_17.1 c k (by omega), f_3.1 c k id, f_1.1 c k (by omega)]
      · rw [f_18.2 c k, f_17.2 c k, f_3.2 c k, f_1.2 c k]
  · rw [if_neg c_1] at h
    obtain ⟨r_19, σ_19, τ_19, q_19, h⟩ := bd_some h
    have f_19 := hme_readsThing σ_1 τ_1 _ _ _ q_19
    obtain ⟨r_20, σ_20, τ_20, q_20, h⟩ := bd_some h
    have f_20 := fr_B_X12_codes_0 N σ_19 τ_19 3000 q_20
    obtain ⟨-, h⟩ := cb_some h
    obtain ⟨rfl, rfl, rfl⟩ := sm_inj h
    refine ⟨fun c k hn => ?_, fun c k => ?_⟩
    · rw [f_20.1 c k (by omega), f_19.1 c k (by omega), f_1.1 c k (by omega)]
    · rw [f_20.2 c k, f_19.2 c k, f_1.2 c k]
set_option maxHeartbeats 2000000 in
theorem fr_B_X12_readsRank_96 (N : Nat) (me_readsThing : gI → gJ → Option (Int32 × gI × gJ)) (hme_readsThing : ∀ (σ : gI) (τ : gJ) (r : Int32) (σ1 : gI) (τ1 : gJ), me_readsThing σ τ = some (r, σ1, τ1) → (∀ c k : Nat, ¬ (c = 217 ∨ (c = 199 ∧ (k = 14 ∨ k = 16 ∨ k = 29))) → σ1 c k = σ c k) ∧ (∀ c k : Nat, τ1 c k = τ c k)) (me_readsRank : gI → gJ → Int32 → Option (Int32 × gI × gJ)) (hme_readsRank : ∀ (σ : gI) (τ : gJ) (x1 : Int32) (r : Int32) (σ1 : gI) (τ1 : gJ), me_readsRank σ τ x1 = some (r, σ1, τ1) → (∀ c k : Nat, ¬ (c = 217 ∨ (c = 199 ∧ (k = 14 ∨ k = 16 ∨ k = 29))) → σ1 c k = σ c k) ∧ (∀ c k : Nat, τ1 c k = τ c k)) (rec_24 : gI → gJ → Int32 → Int32 → Option (Int32 × gI × gJ)) (hrec_24 : ∀ (σ : gI) (τ : gJ) (x1 : Int32) (x2 : Int32) (r : Int32) (σ1 : gI) (τ1 : gJ), rec_24 σ τ x1 x2 = some (r, σ1, τ1) → (∀ c k : Nat, ¬ (c = 217 ∨ (c = 199 ∧ (k = 14 ∨ k = 16 ∨ k = 29))) → σ1 c k = σ c k) ∧ (∀ c k : Nat, τ1 c k = τ c k)) (σ : gI) (τ : gJ) (x1 : Int32) (y0 : Int32) (y1 : Int32) {r : Int32} {σ1 : gI} {τ1 : gJ} (h : B_X12_readsRank_96 me_readsThing me_readsRank N rec_24 σ τ x1 y0 y1 = some (r, σ1, τ1)) : (∀ c k : Nat, ¬ (c = 217 ∨ (c = 199 ∧ (k = 14 ∨ k = 16 ∨ k = 29))) → σ1 c k = σ c k) ∧ (∀ c k : Nat, τ1 c k = τ c k) := by
  unfold B_X12_readsRank_96 at h
  obtain ⟨r_1, σ_1, τ_1, q_1, h⟩ := bd_some h
  have f_1 := fr_B_X12_codes_0 N σ τ (y1 + y0) q_1
  by_cases c_1 : x1 ≤ 0
  · rw [if_pos c_1] at h
    have f9 := hrec_24 σ_1 τ_1 x1 0 _ _ _ h
    refine ⟨fun c k hn => (f9.1 c k hn).trans ?_, fun c k => (f9.2 c k).trans ?_⟩
    · rw [f_1.1 c k (by omega)]
    · rw [f_1.2 c k]
  · rw [if_neg c_1] at h
    have f9 := hrec_24 σ_1 τ_1 x1 1 _ _ _ h
    refine ⟨fun c k hn => (f9.1 c k hn).trans ?_, fun c k => (f9.2 c k).trans ?_⟩
    · rw [f_1.1 c k (by omega)]
    · rw [f_1.2 c k]
set_option maxHeartbeats 2000000 in
theorem fr_C_X12_readsRank_24 (N : Nat) (me_readsThing : gI → gJ → Option (Int32 × gI × gJ)) (hme_readsThing : ∀ (σ : gI) (τ : gJ) (r : Int32) (σ1 : gI) (τ1 : gJ), me_readsThing σ τ = some (r, σ1, τ1) → (∀ c k : Nat, ¬ (c = 217 ∨ (c = 199 ∧ (k = 14 ∨ k = 16 ∨ k = 29))) → σ1 c k = σ c k) ∧ (∀ c k : Nat, τ1 c k = τ c k)) (me_readsRank : gI → gJ → Int32 → Option (Int32 × gI × gJ)) (hme_readsRank : ∀ (σ : gI) (τ : gJ) (x1 : Int32) (r : Int32) (σ1 : gI) (τ1 : gJ), me_readsRank σ τ x1 = some (r, σ1, τ1) → (∀ c k : Nat, ¬ (c = 217 ∨ (c = 199 ∧ (k = 14 ∨ k = 16 ∨ k = 29))) → σ1 c k = σ c k) ∧ (∀ c k : Nat, τ1 c k = τ c k)) (rec_24 : gI → gJ → Int32 → Int32 → Option (Int32 × gI × gJ)) (hrec_24 : ∀ (σ : gI) (τ : gJ) (x1 : Int32) (x2 : Int32) (r : Int32) (σ1 : gI) (τ1 : gJ), rec_24 σ τ x1 x2 = some (r, σ1, τ1) → (∀ c k : Nat, ¬ (c = 217 ∨ (c = 199 ∧ (k = 14 ∨ k = 16 ∨ k = 29))) → σ1 c k = σ c k) ∧ (∀ c k : Nat, τ1 c k = τ c k)) (σ : gI) (τ : gJ) (x1 : Int32) (x2 : Int32) {r : Int32} {σ1 : gI} {τ1 : gJ} (h : C_X12_readsRank_24 me_readsThing me_readsRank N rec_24 σ τ x1 x2 = some (r, σ1, τ1)) : (∀ c k : Nat, ¬ (c = 217 ∨ (c = 199 ∧ (k = 14 ∨ k = 16 ∨ k = 29))) → σ1 c k = σ c k) ∧ (∀ c k : Nat, τ1 c k = τ c k) := by
  unfold C_X12_readsRank_24 at h
  by_cases c_1 : x2 = 0
  · rw [if_pos c_1] at h
    obtain ⟨rfl, rfl, rfl⟩ := sm_inj h
    refine ⟨fun c k hn => ?_, fun c k => ?_⟩
    · rfl
    · rfl
  · rw [if_neg c_1] at h
    by_cases c_2 : x1 = 0
    · rw [if_pos c_2] at h
      obtain ⟨r_16, σ_16, τ_16, q_16, h⟩ := bd_some h
      have f_16 := fr_B_X12_takesOf_0 N sb_16 σ τ q_16
      by_cases c_3 : 0 ≤ r_16
      · rw [if_pos c_3] at h
        obtain ⟨r_18, σ_18, τ_18, q_18, h⟩ := bd_some h
        have f_18 := hme_readsRank σ_16 τ_16 (x1 + 1) _ _ _ q_18
        by_cases c_4 : r_18 = 0
        · rw [if_pos c_4] at h
          obtain ⟨rfl, rfl, rfl⟩ := sm_inj h
          refine ⟨fun c k hn => ?_, fun c k => ?_⟩
          · rw [f_18.1 c k (by omega), f_16.1 c k (by omega)]
          · rw [f_18.2 c k, f_16.2 c k]
        · rw [if_neg c_4] at h
          by_cases c_5 : x1 = 0
          · rw [if_pos c_5] at h
            have f9 := fr_B_X12_readsRank_96 N me_readsThing hme_readsThing me_readsRank hme_readsRank rec_24 hrec_24 σ_18 τ_18 x1 0 (2000 + r_16) h
            refine ⟨fun c k hn => (f9.1 c k hn).trans ?_, fun c k => (f9.2 c k).trans ?_⟩
            · rw [f_18.1 c k (by omega), f_16.1 c k (by omega)]
            · rw [f_18.2 c k, f_16.2 c k]
          · rw [if_neg c_5] at h
            by_cases c_6 : x1 = 1
            · rw [if_pos c_6] at h
              have f9 := fr_B_X12_readsRank_96 N me_readsThing hme_readsThing me_readsRank hme_readsRank rec_24 hrec_24 σ_18 τ_18 x1 3 (2000 + r_16) h
              refine ⟨fun c k hn => (f9.1 c k hn).trans ?_, fun c k => (f9.2 c k).trans ?_⟩
              · rw [f_18.1 c k (by omega), f_16.1 c k (by omega)]
              · rw [f_18.2 c k, f_16.2 c k]
            · rw [if_neg c_6] at h
              have f9 := fr_B_X12_readsRank_96 N me_readsThing hme_readsThing me_readsRank hme_readsRank rec_24 hrec_24 σ_18 τ_18 x1 5 (2000 + r_16) h
              refine ⟨fun c k hn => (f9.1 c k hn).trans ?_, fun c k => (f9.2 c k).trans ?_⟩
              · rw [f_18.1 c k (by omega), f_16.1 c k (by omega)]
              · rw [f_18.2 c k, f_16.2 c k]
      · rw [if_neg c_3] at h
        obtain ⟨rfl, rfl, rfl⟩ := sm_inj h
        refine ⟨fun c k hn => ?_, fun c k => ?_⟩
        · rw [f_16.1 c k (by omega)]
        · rw [f_16.2 c k]
    · rw [if_neg c_2] at h
      by_cases c_7 : x1 = 1
      · rw [if_pos c_7] at h
        obtain ⟨r_10, σ_10, τ_10, q_10, h⟩ := bd_some h
        have f_10 := fr_B_X12_takesOf_0 N sb_17 σ τ q_10
        by_cases c_8 : 0 ≤ r_10
        · rw [if_pos c_8] at h
          obtain ⟨r_12, σ_12, τ_12, q_12, h⟩ := bd_some h
          have f_12 := hme_readsRank σ_10 τ_10 (x1 + 1) _ _ _ q_12
          by_cases c_9 : r_12 = 0
          · rw [if_pos c_9] at h
            obtain ⟨rfl, rfl, rfl⟩ := sm_inj h
            refine ⟨fun c k hn => ?_, fun c k => ?_⟩
            · rw [f_12.1 c k (by omega), f_10.1 c k (by omega)]
            · rw [f_12.2 c k, f_10.2 c k]
          · rw [if_neg c_9] at h
            by_cases c_10 : x1 = 0
            · rw [if_pos c_10] at h
              have f9 := fr_B_X12_readsRank_96 N me_readsThing hme_readsThing me_readsRank hme_readsRank rec_24 hrec_24 σ_12 τ_12 x1 0 (2000 + r_10) h
              refine ⟨fun c k hn => (f9.1 c k hn).trans ?_, fun c k => (f9.2 c k).trans ?_⟩
              · rw [f_12.1 c k (by omega), f_10.1 c k (by omega)]
              · rw [f_12.2 c k, f_10.2 c k]
            · rw [if_neg c_10] at h
              by_cases c_11 : x1 = 1
              · rw [if_pos c_11] at h
                have f9 := fr_B_X12_readsRank_96 N me_readsThing hme_readsThing me_readsRank hme_readsRank rec_24 hrec_24 σ_12 τ_12 x1 3 (2000 + r_10) h
                refine ⟨fun c k hn => (f9.1 c k hn).trans ?_, fun c k => (f9.2 c k).trans ?_⟩
                · rw [f_12.1 c k (by omega), f_10.1 c k (by omega)]
                · rw [f_12.2 c k, f_10.2 c k]
              · rw [if_neg c_11] at h
                have f9 := fr_B_X12_readsRank_96 N me_readsThing hme_readsThing me_readsRank hme_readsRank rec_24 hrec_24 σ_12 τ_12 x1 5 (2000 + r_10) h
                refine ⟨fun c k hn => (f9.1 c k hn).trans ?_, fun c k => (f9.2 c k).trans ?_⟩
                · rw [f_12.1 c k (by omega), f_10.1 c k (by omega)]
                · rw [f_12.2 c k, f_10.2 c k]
        · rw [if_neg c_8] at h
          obtain ⟨rfl, rfl, rfl⟩ := sm_inj h
          refine ⟨fun c k hn => ?_, fun c k => ?_⟩
          · rw [f_10.1 c k (by omega)]
          · rw [f_10.2 c k]
      · rw [if_neg c_7] at h
        obtain ⟨r_4, σ_4, τ_4, q_4, h⟩ := bd_some h
        have f_4 := fr_B_X12_takesOf_0 N sb_18 σ τ q_4
        by_cases c_12 : 0 ≤ r_4
        · rw [if_pos c_12] at h
          obtain ⟨r_6, σ_6, τ_6, q_6, h⟩ := bd_some h
          have f_6 := hme_readsRank σ_4 τ_4 (x1 + 1) _ _ _ q_6
          by_cases c_13 : r_6 = 0
          · rw [if_pos c_13] at h
            obtain ⟨rfl, rfl, rfl⟩ := sm_inj h
            refine ⟨fun c k hn => ?_, fun c k => ?_⟩
            · rw [f_6.1 c k (by omega), f_4.1 c k (by omega)]
            · rw [f_6.2 c k, f_4.2 c k]
          · rw [if_neg c_13] at h
            by_cases c_14 : x1 = 0
            · rw [if_pos c_14] at h
              have f9 := fr_B_X12_readsRank_96 N me_readsThing hme_readsThing me_readsRank hme_readsRank rec_24 hrec_24 σ_6 τ_6 x1 0 (2000 + r_4) h
              refine ⟨fun c k hn => (f9.1 c k hn).trans ?_, fun c k => (f9.2 c k).trans ?_⟩
              · rw [f_6.1 c k (by omega), f_4.1 c k (by omega)]
              · rw [f_6.2 c k, f_4.2 c k]
            · rw [if_neg c_14] at h
              by_cases c_15 : x1 = 1
              · rw [if_pos c_15] at h
                have f9 := fr_B_X12_readsRank_96 N me_readsThing hme_readsThing me_readsRank hme_readsRank rec_24 hrec_24 σ_6 τ_6 x1 3 (2000 + r_4) h
                refine ⟨fun c k hn => (f9.1 c k hn).trans ?_, fun c k => (f9.2 c k).trans ?_⟩
                · rw [f_6.1 c k (by omega), f_4.1 c k (by omega)]
                · rw [f_6.2 c k, f_4.2 c k]
              · rw [if_neg c_15] at h
                have f9 := fr_B_X12_readsRank_96 N me_readsThing hme_readsThing me_readsRank hme_readsRank rec_24 hrec_24 σ_6 τ_6 x1 5 (2000 + r_4) h
                refine ⟨fun c k hn => (f9.1 c k hn).trans ?_, fun c k => (f9.2 c k).trans ?_⟩
                · rw [f_6.1 c k (by omega), f_4.1 c k (by omega)]
                · rw [f_6.2 c k, f_4.2 c k]
        · rw [if_neg c_12] at h
          obtain ⟨rfl, rfl, rfl⟩ := sm_inj h
          refine ⟨fun c k hn => ?_, fun c k => ?_⟩
          · rw [f_4.1 c k (by omega)]
          · rw [f_4.2 c k]
theorem fr_H_X12_readsRank_24 (N : Nat) (me_readsThing : gI → gJ → Option (Int32 × gI × gJ)) (hme_readsThing : ∀ (σ : gI) (τ : gJ) (r : Int32) (σ1 : gI) (τ1 : gJ), me_readsThing σ τ = some (r, σ1, τ1) → (∀ c k : Nat, ¬ (c = 217 ∨ (c = 199 ∧ (k = 14 ∨ k = 16 ∨ k = 29))) → σ1 c k = σ c k) ∧ (∀ c k : Nat, τ1 c k = τ c k)) (me_readsRank : gI → gJ → Int32 → Option (Int32 × gI × gJ)) (hme_readsRank : ∀ (σ : gI) (τ : gJ) (x1 : Int32) (r : Int32) (σ1 : gI) (τ1 : gJ), me_readsRank σ τ x1 = some (r, σ1, τ1) → (∀ c k : Nat, ¬ (c = 217 ∨ (c = 199 ∧ (k = 14 ∨ k = 16 ∨ k = 29))) → σ1 c k = σ c k) ∧ (∀ c k : Nat, τ1 c k = τ c k)) : ∀ (n : Nat) (σ : gI) (τ : gJ) (x1 : Int32) (x2 : Int32) (r : Int32) (σ1 : gI) (τ1 : gJ), H_X12_readsRank_24 me_readsThing me_readsRank N n σ τ x1 x2 = some (r, σ1, τ1) → (∀ c k : Nat, ¬ (c = 217 ∨ (c = 199 ∧ (k = 14 ∨ k = 16 ∨ k = 29))) → σ1 c k = σ c k) ∧ (∀ c k : Nat, τ1 c k = τ c k) := by
  intro n
  induction n with
  | zero => intro σ τ x1 x2 r σ1 τ1 h; cases h
  | succ n ih =>
    intro σ τ x1 x2 r σ1 τ1 h
    exact fr_C_X12_readsRank_24 N me_readsThing hme_readsThing me_readsRank hme_readsRank (H_X12_readsRank_24 me_readsThing me_readsRank N n) ih σ τ x1 x2 h
set_option maxHeartbeats 2000000 in
theorem fr_B_X12_readsRank_0 (N : Nat) (me_readsThing : gI → gJ → Option (Int32 × gI × gJ)) (hme_readsThing : ∀ (σ : gI) (τ : gJ) (r : Int32) (σ1 : gI) (τ1 : gJ), me_readsThing σ τ = some (r, σ1, τ1) → (∀ c k : Nat, ¬ (c = 217 ∨ (c = 199 ∧ (k = 14 ∨ k = 16 ∨ k = 29))) → σ1 c k = σ c k) ∧ (∀ c k : Nat, τ1 c k = τ c k)) (me_readsRank : gI → gJ → Int32 → Option (Int32 × gI × gJ)) (hme_readsRank : ∀ (σ : gI) (τ : gJ) (x1 : Int32) (r : Int32) (σ1 : gI) (τ1 : gJ), me_readsRank σ τ x1 = some (r, σ1, τ1) → (∀ c k : Nat, ¬ (c = 217 ∨ (c = 199 ∧ (k = 14 ∨ k = 16 ∨ k = 29))) → σ1 c k = σ c k) ∧ (∀ c k : Nat, τ1 c k = τ c k)) (σ : gI) (τ : gJ) (x1 : Int32) {r : Int32} {σ1 : gI} {τ1 : gJ} (h : B_X12_readsRank_0 me_readsThing me_readsRank N σ τ x1 = some (r, σ1, τ1)) : (∀ c k : Nat, ¬ (c = 217 ∨ (c = 199 ∧ (k = 14 ∨ k = 16 ∨ k = 29))) → σ1 c k = σ c k) ∧ (∀ c k : Nat, τ1 c k = τ c k) := by
  unfold B_X12_readsRank_0 at h
  by_cases c_1 : x1 = 3
  · rw [if_pos c_1] at h
    obtain ⟨r_4, σ_4, τ_4, q_4, h⟩ := bd_some h
    have f_4 := hme_readsThing σ τ _ _ _ q_4
    obtain ⟨-, h⟩ := cb_some h
    obtain ⟨rfl, rfl, rfl⟩ := sm_inj h
    refine ⟨fun c k hn => ?_, fun c k => ?_⟩
    · rw [f_4.1 c k (by omega)]
    · rw [f_4.2 c k]
  · rw [if_neg c_1] at h
    obtain ⟨r_2, σ_2, τ_2, q_2, h⟩ := bd_some h
    have f_2 := hme_readsRank σ τ (x1 + 1) _ _ _ q_2
    by_cases c_2 : r_2 = 0
    · rw [if_pos c_2] at h
      obtain ⟨rfl, rfl, rfl⟩ := sm_inj h
      refine ⟨fun c k hn => ?_, fun c k => ?_⟩
      · rw [f_2.1 c k (by omega)]
      · rw [f_2.2 c k]
    · rw [if_neg c_2] at h
      have f9 := fr_H_X12_readsRank_24 N me_readsThing hme_readsThing me_readsRank hme_readsRank N σ_2 τ_2 x1 1 _ _ _ h
      refine ⟨fun c k hn => (f9.1 c k hn).trans ?_, fun c k => (f9.2 c k).trans ?_⟩
      · rw [f_2.1 c k (by omega)]
      · rw [f_2.2 c k]
theorem fr_R_X12_reads (N : Nat) : ∀ D : Nat, (∀ (σ : gI) (τ : gJ) (r : Int32) (σ1 : gI) (τ1 : gJ), (R_X12_reads N D).1 σ τ = some (r, σ1, τ1) → (∀ c k : Nat, ¬ (c = 217 ∨ (c = 199 ∧ (k = 14 ∨ k = 16 ∨ k = 29))) → σ1 c k = σ c k) ∧ (∀ c k : Nat, τ1 c k = τ c k)) ∧ (∀ (σ : gI) (τ : gJ) (x1 : Int32) (r : Int32) (σ1 : gI) (τ1 : gJ), (R_X12_reads N D).2 σ τ x1 = some (r, σ1, τ1) → (∀ c k : Nat, ¬ (c = 217 ∨ (c = 199 ∧ (k = 14 ∨ k = 16 ∨ k = 29))) → σ1 c k = σ c k) ∧ (∀ c k : Nat, τ1 c k = τ c k)) := by
  intro D
  induction D with
  | zero => exact ⟨fun σ τ r σ1 τ1 h => (by cases h), fun σ τ x1 r σ1 τ1 h => (by cases h)⟩
  | succ D ih => exact ⟨fun σ τ r σ1 τ1 h => fr_B_X12_readsThing_0 N ((R_X12_reads N D).1) (ih.1) ((R_X12_reads N D).2) (ih.2) σ τ h, fun σ τ x1 r σ1 τ1 h => fr_B_X12_readsRank_0 N ((R_X12_reads N D).1) (ih.1) ((R_X12_reads N D).2) (ih.2) σ τ x1 h⟩
set_option maxHeartbeats 2000000 in
theorem fr_B_X12_round_132 (N : Nat) (σ : gI) (τ : gJ) (x2 : Int32) (x3 : Int32) {r : Int32} {σ1 : gI} {τ1 : gJ} (h : B_X12_round_132 N σ τ x2 x3 = some (r, σ1, τ1)) : (∀ c k : Nat, ¬ (c = 218 ∨ c = 224 ∨ (c = 199 ∧ (k = 0 ∨ k = 1 ∨ k = 33 ∨ k = 34 ∨ k = 35 ∨ k = 45 ∨ k = 46))) → σ1 c k = σ c k) ∧ (∀ c k : Nat, c ≠ 200 → τ1 c k = τ c k) := by
  unfold B_X12_round_132 at h
  obtain ⟨σ_1, e_1, h⟩ := nm_some h
  by_cases c_1 : 0 ≤ x2
  · rw [if_pos c_1] at h
    obtain ⟨σ_3, e_3, h⟩ := nm_some h
    obtain ⟨r_4, σ_4, τ_4, q_4, h⟩ := bd_some h
    have f_4 := fr_B_X12_enters_0 N σ_3 τ x3.toInt64 q_4
    obtain ⟨rfl, rfl, rfl⟩ := sm_inj h
    refine ⟨fun c k hn => ?_, fun c k hn => ?_⟩
    · rw [f_4.1 c k (by omega), e_3, up2_ne (by omega), e_1, up2_ne (by omega)]
    · rw [f_4.2 c k hn]
  · rw [if_neg c_1] at h
    obtain ⟨rfl, rfl, rfl⟩ := sm_inj h
    refine ⟨fun c k hn => ?_, fun c k hn => ?_⟩
    · rw [e_1, up2_ne (by omega)]
    · rfl
set_option maxHeartbeats 2000000 in
theorem fr_C_X12_round_51 (N : Nat) (rec_51 : gI → gJ → Int32 → Int32 → Int32 → Int32 → Option (Int32 × gI × gJ)) (hrec_51 : ∀ (σ : gI) (τ : gJ) (x1 : Int32) (x2 : Int32) (x3 : Int32) (x4 : Int32) (r : Int32) (σ1 : gI) (τ1 : gJ), rec_51 σ τ x1 x2 x3 x4 = some (r, σ1, τ1) → (∀ c k : Nat, ¬ (c = 218 ∨ c = 224 ∨ (c = 199 ∧ (k = 0 ∨ k = 1 ∨ k = 33 ∨ k = 34 ∨ k = 35 ∨ k = 45 ∨ k = 46))) → σ1 c k = σ c k) ∧ (∀ c k : Nat, c ≠ 200 → τ1 c k = τ c k)) (σ : gI) (τ : gJ) (x1 : Int32) (x2 : Int32) (x3 : Int32) (x4 : Int32) {r : Int32} {σ1 : gI} {τ1 : gJ} (h : C_X12_round_51 N rec_51 σ τ x1 x2 x3 x4 = some (r, σ1, τ1)) : (∀ c k : Nat, ¬ (c = 218 ∨ c = 224 ∨ (c = 199 ∧ (k = 0 ∨ k = 1 ∨ k = 33 ∨ k = 34 ∨ k = 35 ∨ k = 45 ∨ k = 46))) → σ1 c k = σ c k) ∧ (∀ c k : Nat, c ≠ 200 → τ1 c k = τ c k) := by
  unfold C_X12_round_51 at h
  by_cases c_1 : 300 < x4
  · rw [if_pos c_1] at h
    have f9 := fr_B_X12_round_132 N σ τ x2 x3 h
    refine ⟨fun c k hn => (f9.1 c k hn).trans ?_, fun c k hn => (f9.2 c k hn).trans ?_⟩
    · rfl
    · rfl
  · rw [if_neg c_1] at h
    by_cases c_2 : 0 ≤ x3
    · rw [if_pos c_2] at h
      have f9 := fr_B_X12_round_132 N σ τ x2 x3 h
      refine ⟨fun c k hn => (f9.1 c k hn).trans ?_, fun c k hn => (f9.2 c k hn).trans ?_⟩
      · rfl
      · rfl
    · rw [if_neg c_2] at h
      obtain ⟨r_3, σ_3, τ_3, q_3, h⟩ := bd_some h
      have f_3 := fr_B_X12_minuteGoes_0 N 224 σ τ q_3
      by_cases c_3 : σ_3 199 34 = 0
      · rw [if_pos c_3] at h
        obtain ⟨v_5, e_5, h⟩ := nm_some h
        have f9 := hrec_51 σ_3 τ_3 x1 x2 x3 v_5 _ _ _ h
        refine ⟨fun c k hn => (f9.1 c k hn).trans ?_, fun c k hn => (f9.2 c k hn).trans ?_⟩
        · rw [f_3.1 c k (by omega)]
        · rw [f_3.2 c k]
      · rw [if_neg c_3] at h
        by_cases c_4 : σ_3 224 4 = 0
        · rw [if_pos c_4] at h
          by_cases c_5 : σ_3 224 0 = x1
          · rw [if_pos c_5] at h
            by_cases c_6 : 0 ≤ x2
            · rw [if_pos c_6] at h
              obtain ⟨v_11, e_11, h⟩ := nm_some h
              by_cases c_7 : 0 ≤ x2
              · rw [if_pos c_7] at h
                obtain ⟨σ_13, e_13, h⟩ := nm_some h
                obtain ⟨v_14, e_14, h⟩ := nm_some h
                have f9 := hrec_51 σ_13 τ_3 x1 x2 v_11 v_14 _ _ _ h
                refine ⟨fun c k hn => (f9.1 c k hn).trans ?_, fun c k hn => (f9.2 c k hn).trans ?_⟩
                · rw [e_13, up2_ne (by omega), f_3.1 c k (by omega)]
                · rw [f_3.2 c k]
              · rw [if_neg c_7] at h
                obtain ⟨σ_15, e_15, h⟩ := nm_some h
                obtain ⟨v_16, e_16, h⟩ := nm_some h
                have f9 := hrec_51 σ_15 τ_3 x1 x4 v_11 v_16 _ _ _ h
                refine ⟨fun c k hn => (f9.1 c k hn).trans ?_, fun c k hn => (f9.2 c k hn).trans ?_⟩
                · rw [e_15, up2_ne (by omega), f_3.1 c k (by omega)]
                · rw [f_3.2 c k]
            · rw [if_neg c_6] at h
              by_cases c_8 : 0 ≤ x2
              · rw [if_pos c_8] at h
                obtain ⟨σ_18, e_18, h⟩ := nm_some h
                obtain ⟨v_19, e_19, h⟩ := nm_some h
                have f9 := hrec_51 σ_18 τ_3 x1 x2 x3 v_19 _ _ _ h
                refine ⟨fun c k hn => (f9.1 c k hn).trans ?_, fun c k hn => (f9.2 c k hn).trans ?_⟩
                · rw [e_18, up2_ne (by omega), f_3.1 c k (by omega)]
                · rw [f_3.2 c k]
              · rw [if_neg c_8] at h
                obtain ⟨σ_20, e_20, h⟩ := nm_some h
                obtain ⟨v_21, e_21, h⟩ := nm_some h
                have f9 := hrec_51 σ_20 τ_3 x1 x4 x3 v_21 _ _ _ h
                refine ⟨fun c k hn => (f9.1 c k hn).trans ?_, fun c k hn => (f9.2 c k hn).trans ?_⟩
                · rw [e_20, up2_ne (by omega), f_3.1 c k (by omega)]
                · rw [f_3.2 c k]
          · rw [if_neg c_5] at h
            obtain ⟨v_9, e_9, h⟩ := nm_some h
            have f9 := hrec_51 σ_3 τ_3 x1 x2 x3 v_9 _ _ _ h
            refine ⟨fun c k hn => (f9.1 c k hn).trans ?_, fun c k hn => (f9.2 c k hn).trans ?_⟩
            · rw [f_3.1 c k (by omega)]
            · rw [f_3.2 c k]
        · rw [if_neg c_4] at h
          obtain ⟨v_7, e_7, h⟩ := nm_some h
          have f9 := hrec_51 σ_3 τ_3 x1 x2 x3 v_7 _ _ _ h
          refine ⟨fun c k hn => (f9.1 c k hn).trans ?_, fun c k hn => (f9.2 c k hn).trans ?_⟩
          · rw [f_3.1 c k (by omega)]
          · rw [f_3.2 c k]
theorem fr_H_X12_round_51 (N : Nat) : ∀ (n : Nat) (σ : gI) (τ : gJ) (x1 : Int32) (x2 : Int32) (x3 : Int32) (x4 : Int32) (r : Int32) (σ1 : gI) (τ1 : gJ), H_X12_round_51 N n σ τ x1 x2 x3 x4 = some (r, σ1, τ1) → (∀ c k : Nat, ¬ (c = 218 ∨ c = 224 ∨ (c = 199 ∧ (k = 0 ∨ k = 1 ∨ k = 33 ∨ k = 34 ∨ k = 35 ∨ k = 45 ∨ k = 46))) → σ1 c k = σ c k) ∧ (∀ c k : Nat, c ≠ 200 → τ1 c k = τ c k) := by
  intro n
  induction n with
  | zero => intro σ τ x1 x2 x3 x4 r σ1 τ1 h; cases h
  | succ n ih =>
    intro σ τ x1 x2 x3 x4 r σ1 τ1 h
    exact fr_C_X12_round_51 N (H_X12_round_51 N n) ih σ τ x1 x2 x3 x4 h
set_option maxHeartbeats 2000000 in
theorem fr_B_X12_round_0 (N : Nat) (σ : gI) (τ : gJ) (x1 : Int32) {r : Int32} {σ1 : gI} {τ1 : gJ} (h : B_X12_round_0 N σ τ x1 = some (r, σ1, τ1)) : (∀ c k : Nat, ¬ (c = 218 ∨ c = 224 ∨ (c = 199 ∧ (k = 0 ∨ k = 1 ∨ k = 33 ∨ k = 34 ∨ k = 35 ∨ k = 45 ∨ k = 46))) → σ1 c k = σ c k) ∧ (∀ c k : Nat, c ≠ 200 → τ1 c k = τ c k) := by
  unfold B_X12_round_0 at h
  obtain ⟨σ_1, e_1, h⟩ := nm_some h
  obtain ⟨r_2, σ_2, τ_2, q_2, h⟩ := bd_some h
  have f_2 := fr_B_X12_isPlace_0 N σ_1 τ x1 q_2
  by_cases c_1 : r_2 = 0
  · rw [if_pos c_1] at h
    obtain ⟨rfl, rfl, rfl⟩ := sm_inj h
    refine ⟨fun c k hn => ?_, fun c k hn => ?_⟩
    · rw [f_2.1 c k id, e_1, up2_ne (by omega)]
    · rw [f_2.2 c k]
  · rw [if_neg c_1] at h
    obtain ⟨r_4, σ_4, τ_4, q_4, h⟩ := bd_some h
    have f_4 := fr_B_X12_thinksNow_0 N σ_2 τ_2 q_4
    obtain ⟨σ_5, e_5, h⟩ := nm_some h
    obtain ⟨σ_6, e_6, h⟩ := nm_some h
    obtain ⟨σ_7, e_7, h⟩ := nm_some h
    obtain ⟨r_8, σ_8, τ_8, q_8, h⟩ := bd_some h
    have f_8 := fr_B_X12_laysAlone_0 N σ_7 τ_4 x1 99 9 0 q_8
    have f9 := fr_H_X12_round_51 N N σ_8 τ_8 x1 (-1) (-1) 1 _ _ _ h
    refine ⟨fun c k hn => (f9.1 c k hn).trans ?_, fun c k hn => (f9.2 c k hn).trans ?_⟩
    · rw [f_8.1 c k (by omega), e_7, up2_ne (by omega), e_6, up2_ne (by omega), e_5, up2_ne (by omega), f_4.1 c k (by omega), f_2.1 c k id, e_1, up2_ne (by omega)]
    · rw [f_8.2 c k, f_4.2 c k, f_2.2 c k]
set_option maxHeartbeats 2000000 in
theorem fr_B_X12_row_0 (N : Nat) (σ : gI) (τ : gJ) (x1 : Int32) {r : Int64} {σ1 : gI} {τ1 : gJ} (h : B_X12_row_0 N σ τ x1 = some (r, σ1, τ1)) : (∀ c k : Nat, ¬ ((c = 199 ∧ (k = 0))) → σ1 c k = σ c k) ∧ (∀ c k : Nat, τ1 c k = τ c k) := by
  unfold B_X12_row_0 at h
  obtain ⟨σ_1, e_1, h⟩ := nm_some h
  obtain ⟨r_2, σ_2, τ_2, q_2, h⟩ := bd_some h
  have f_2 := fr_B_X12_in_0 N σ_1 τ x1.toInt64 0 (((σ_1 199 1) - 1).toInt64) q_2
  by_cases c_1 : r_2 = 0
  · rw [if_pos c_1] at h
    obtain ⟨σ_5, e_5, h⟩ := nm_some h
    obtain ⟨rfl, rfl, rfl⟩ := sm_inj h
    refine ⟨fun c k hn => ?_, fun c k => ?_⟩
    · rw [e_5, up2_ne (by omega), f_2.1 c k id, e_1, up2_ne (by omega)]
    · rw [f_2.2 c k]
  · rw [if_neg c_1] at h
    obtain ⟨j_4, -, -, h⟩ := ck_some h
    obtain ⟨rfl, rfl, rfl⟩ := sm_inj h
    refine ⟨fun c k hn => ?_, fun c k => ?_⟩
    · rw [f_2.1 c k id, e_1, up2_ne (by omega)]
    · rw [f_2.2 c k]
set_option maxHeartbeats 2000000 in
theorem fr_C_X12_rule_61 (N : Nat) (rec_61 : gI → gJ → Int32 → Option (Int32 × gI × gJ)) (hrec_61 : ∀ (σ : gI) (τ : gJ) (x4 : Int32) (r : Int32) (σ1 : gI) (τ1 : gJ), rec_61 σ τ x4 = some (r, σ1, τ1) → (∀ c k : Nat, ¬ (c = 216 ∨ c = 217 ∨ (c = 199 ∧ (k = 0 ∨ k = 13 ∨ k = 14 ∨ k = 15 ∨ k = 16 ∨ k = 28 ∨ k = 29))) → σ1 c k = σ c k) ∧ (∀ c k : Nat, τ1 c k = τ c k)) (σ : gI) (τ : gJ) (x4 : Int32) {r : Int32} {σ1 : gI} {τ1 : gJ} (h : C_X12_rule_61 N rec_61 σ τ x4 = some (r, σ1, τ1)) : (∀ c k : Nat, ¬ (c = 216 ∨ c = 217 ∨ (c = 199 ∧ (k = 0 ∨ k = 13 ∨ k = 14 ∨ k = 15 ∨ k = 16 ∨ k = 28 ∨ k = 29))) → σ1 c k = σ c k) ∧ (∀ c k : Nat, τ1 c k = τ c k) := by
  unfold C_X12_rule_61 at h
  by_cases c_1 : σ 199 29 ≤ x4
  · rw [if_pos c_1] at h
    obtain ⟨rfl, rfl, rfl⟩ := sm_inj h
    refine ⟨fun c k hn => ?_, fun c k => ?_⟩
    · rfl
    · rfl
  · rw [if_neg c_1] at h
    obtain ⟨j_2, -, -, h⟩ := ck_some h
    obtain ⟨σ_3, e_3, h⟩ := nm_some h
    obtain ⟨v_4, e_4, h⟩ := nm_some h
    have f9 := hrec_61 σ_3 τ v_4 _ _ _ h
    refine ⟨fun c k hn => (f9.1 c k hn).trans ?_, fun c k => (f9.2 c k).trans ?_⟩
    · rw [e_3, up2_ne (by omega)]
    · rfl
theorem fr_H_X12_rule_61 (N : Nat) : ∀ (n : Nat) (σ : gI) (τ : gJ) (x4 : Int32) (r : Int32) (σ1 : gI) (τ1 : gJ), H_X12_rule_61 N n σ τ x4 = some (r, σ1, τ1) → (∀ c k : Nat, ¬ (c = 216 ∨ c = 217 ∨ (c = 199 ∧ (k = 0 ∨ k = 13 ∨ k = 14 ∨ k = 15 ∨ k = 16 ∨ k = 28 ∨ k = 29))) → σ1 c k = σ c k) ∧ (∀ c k : Nat, τ1 c k = τ c k) := by
  intro n
  induction n with
  | zero => intro σ τ x4 r σ1 τ1 h; cases h
  | succ n ih =>
    intro σ τ x4 r σ1 τ1 h
    exact fr_C_X12_rule_61 N (H_X12_rule_61 N n) ih σ τ x4 h
set_option maxHeartbeats 2000000 in
theorem fr_B_X12_rule_34 (N : Nat) (σ : gI) (τ : gJ) (x1 : Int32) (y0 : Int32) {r : Int32} {σ1 : gI} {τ1 : gJ} (h : B_X12_rule_34 N σ τ x1 y0 = some (r, σ1, τ1)) : (∀ c k : Nat, ¬ (c = 216 ∨ c = 217 ∨ (c = 199 ∧ (k = 0 ∨ k = 13 ∨ k = 14 ∨ k = 15 ∨ k = 16 ∨ k = 28 ∨ k = 29))) → σ1 c k = σ c k) ∧ (∀ c k : Nat, τ1 c k = τ c k) := by
  unfold B_X12_rule_34 at h
  obtain ⟨r_1, σ_1, τ_1, q_1, h⟩ := bd_some h
  have f_1 := fr_B_X12_faultOf_0 N σ τ x1 40 y0 q_1
  by_cases c_1 : 0 ≤ r_1
  · rw [if_pos c_1] at h
    obtain ⟨σ_3, e_3, h⟩ := nm_some h
    have f9 := fr_H_X12_rule_61 N N σ_3 τ_1 0 _ _ _ h
    refine ⟨fun c k hn => (f9.1 c k hn).trans ?_, fun c k => (f9.2 c k).trans ?_⟩
    · rw [e_3, up2_ne (by omega), f_1.1 c k id]
    · rw [f_1.2 c k]
  · rw [if_neg c_1] at h
    obtain ⟨rfl, rfl, rfl⟩ := sm_inj h
    refine ⟨fun c k hn => ?_, fun c k => ?_⟩
    · rw [f_1.1 c k id]
    · rw [f_1.2 c k]
set_option maxHeartbeats 2000000 in
theorem fr_B_X12_rule_0 (N : Nat) (σ : gI) (τ : gJ) {r : Int32} {σ1 : gI} {τ1 : gJ} (h : B_X12_rule_0 N σ τ = some (r, σ1, τ1)) : (∀ c k : Nat, ¬ (c = 216 ∨ c = 217 ∨ (c = 199 ∧ (k = 0 ∨ k = 13 ∨ k = 14 ∨ k = 15 ∨ k = 16 ∨ k = 28 ∨ k = 29))) → σ1 c k = σ c k) ∧ (∀ c k : Nat, τ1 c k = τ c k) := by
  unfold B_X12_rule_0 at h
  obtain ⟨σ_1, e_1, h⟩ := nm_some h
  obtain ⟨r_2, σ_2, τ_2, q_2, h⟩ := bd_some h
  have f_2 := fr_B_X12_begins_0 N σ_1 τ 40 q_2
  obtain ⟨σ_3, e_3, h⟩ := nm_some h
  by_cases c_1 : r_2 = 0
  · rw [if_pos c_1] at h
    have f9 := fr_B_X12_rule_34 N σ_3 τ_2 r_2 1 h
    refine ⟨fun c k hn => (f9.1 c k hn).trans ?_, fun c k => (f9.2 c k).trans ?_⟩
    · rw [e_3, up2_ne (by omega), f_2.1 c k (by omega), e_1, up2_ne (by omega)]
    · rw [f_2.2 c k]
  · rw [if_neg c_1] at h
    obtain ⟨r_5, σ_5, τ_5, q_5, h⟩ := bd_some h
    have f_5 := (fr_R_X12_reads N 100).2 σ_3 τ_2 0 _ _ _ q_5
    by_cases c_2 : r_5 = 0
    · rw [if_pos c_2] at h
      have f9 := fr_B_X12_rule_34 N σ_5 τ_5 r_2 0 h
      refine ⟨fun c k hn => (f9.1 c k hn).trans ?_, fun c k => (f9.2 c k).trans ?_⟩
      · rw [f_5.1 c k (by omega), e_3, up2_ne (by omega), f_2.1 c k (by omega), e_1, up2_ne (by omega)]
      · rw [f_5.2 c k, f_2.2 c k]
    · rw [if_neg c_2] at h
      have f9 := fr_B_X12_rule_34 N σ_5 τ_5 r_2 1 h
      refine ⟨fun c k hn => (f9.1 c k hn).trans ?_, fun c k => (f9.2 c k).trans ?_⟩
      · rw [f_5.1 c k (by omega), e_3, up2_ne (by omega), f_2.1 c k (by omega), e_1, up2_ne (by omega)]
      · rw [f_5.2 c k, f_2.2 c k]
set_option maxHeartbeats 2000000 in
theorem fr_C_X12_run_44 (N : Nat) (rec_44 : gI → gJ → Int32 → Int32 → Int32 → Int32 → Option (Int32 × gI × gJ)) (hrec_44 : ∀ (σ : gI) (τ : gJ) (x1 : Int32) (x2 : Int32) (x3 : Int32) (x4 : Int32) (r : Int32) (σ1 : gI) (τ1 : gJ), rec_44 σ τ x1 x2 x3 x4 = some (r, σ1, τ1) → (∀ c k : Nat, ¬ (c = 206 ∨ c = 218 ∨ c = 219 ∨ (c = 199 ∧ (k = 0 ∨ k = 1 ∨ k = 34 ∨ k = 36))) → σ1 c k = σ c k) ∧ (∀ c k : Nat, c ≠ 200 → τ1 c k = τ c k)) (σ : gI) (τ : gJ) (x1 : Int32) (x2 : Int32) (x3 : Int32) (x4 : Int32) {r : Int32} {σ1 : gI} {τ1 : gJ} (h : C_X12_run_44 N rec_44 σ τ x1 x2 x3 x4 = some (r, σ1, τ1)) : (∀ c k : Nat, ¬ (c = 206 ∨ c = 218 ∨ c = 219 ∨ (c = 199 ∧ (k = 0 ∨ k = 1 ∨ k = 34 ∨ k = 36))) → σ1 c k = σ c k) ∧ (∀ c k : Nat, c ≠ 200 → τ1 c k = τ c k) := by
  unfold C_X12_run_44 at h
  by_cases c_1 : x1 ≤ x4
  · rw [if_pos c_1] at h
    obtain ⟨σ_2, e_2, h⟩ := nm_some h
    obtain ⟨r_3, σ_3, τ_3, q_3, h⟩ := bd_some h
    have f_3 := fr_B_X12_thoseHow_0 N 206 σ_2 τ 1 q_3
    obtain ⟨r_4, σ_4, τ_4, q_4, h⟩ := bd_some h
    have f_4 := fr_B_X12_enters_0 N σ_3 τ_3 ((r_3 &&& (x2 ^^^ (-1))).toInt64) q_4
    obtain ⟨r_5, σ_5, τ_5, q_5, h⟩ := bd_some h
    have f_5 := fr_B_X12_thoseHow_0 N 206 σ_4 τ_4 2 q_5
    obtain ⟨r_6, σ_6, τ_6, q_6, h⟩ := bd_some h
    have f_6 := fr_B_X12_enters_0 N σ_5 τ_5 ((r_5 &&& (x3 ^^^ (-1))).toInt64) q_6
    obtain ⟨r_7, σ_7, τ_7, q_7, h⟩ := bd_some h
    have f_7 := fr_B_X12_thoseHow_0 N 206 σ_6 τ_6 1 q_7
    obtain ⟨r_8, σ_8, τ_8, q_8, h⟩ := bd_some h
    have f_8 := fr_B_J6_bitCount_0f7a4_0 N σ_7 τ_7 (r_7 &&& (x2 ^^^ (-1))) q_8
    by_cases c_2 : x1 ≤ 0
    · rw [if_pos c_2] at h
      obtain ⟨rfl, rfl, rfl⟩ := sm_inj h
      refine ⟨fun c k hn => ?_, fun c k hn => ?_⟩
      · rw [f_8.1 c k id, f_7.1 c k id, f_6.1 c k (by omega), f_5.1 c k id, f_4.1 c k (by omega), f_3.1 c k id, e_2, up2_ne (by omega)]
      · rw [f_8.2 c k, f_7.2 c k, f_6.2 c k hn, f_5.2 c k, f_4.2 c k hn, f_3.2 c k]
    · rw [if_neg c_2] at h
      obtain ⟨r_10, σ_10, τ_10, q_10, h⟩ := bd_some h
      have f_10 := fr_B_X12_adds_0 N σ_8 τ_8 r_8 q_10
      obtain ⟨rfl, rfl, rfl⟩ := sm_inj h
      refine ⟨fun c k hn => ?_, fun c k hn => ?_⟩
      · rw [f_10.1 c k (by omega), f_8.1 c k id, f_7.1 c k id, f_6.1 c k (by omega), f_5.1 c k id, f_4.1 c k (by omega), f_3.1 c k id, e_2, up2_ne (by omega)]
      · rw [f_10.2 c k, f_8.2 c k, f_7.2 c k, f_6.2 c k hn, f_5.2 c k, f_4.2 c k hn, f_3.2 c k]
  · rw [if_neg c_1] at h
    obtain ⟨r_11, σ_11, τ_11, q_11, h⟩ := bd_some h
    have f_11 := fr_B_X12_minuteGoes_0 N 206 σ τ q_11
    obtain ⟨v_12, e_12, h⟩ := nm_some h
    have f9 := hrec_44 σ_11 τ_11 x1 x2 x3 v_12 _ _ _ h
    refine ⟨fun c k hn => (f9.1 c k hn).trans ?_, fun c k hn => (f9.2 c k hn).trans ?_⟩
    · rw [f_11.1 c k (by omega)]
    · rw [f_11.2 c k]
theorem fr_H_X12_run_44 (N : Nat) : ∀ (n : Nat) (σ : gI) (τ : gJ) (x1 : Int32) (x2 : Int32) (x3 : Int32) (x4 : Int32) (r : Int32) (σ1 : gI) (τ1 : gJ), H_X12_run_44 N n σ τ x1 x2 x3 x4 = some (r, σ1, τ1) → (∀ c k : Nat, ¬ (c = 206 ∨ c = 218 ∨ c = 219 ∨ (c = 199 ∧ (k = 0 ∨ k = 1 ∨ k = 34 ∨ k = 36))) → σ1 c k = σ c k) ∧ (∀ c k : Nat, c ≠ 200 → τ1 c k = τ c k) := by
  intro n
  induction n with
  | zero => intro σ τ x1 x2 x3 x4 r σ1 τ1 h; cases h
  | succ n ih =>
    intro σ τ x1 x2 x3 x4 r σ1 τ1 h
    exact fr_C_X12_run_44 N (H_X12_run_44 N n) ih σ τ x1 x2 x3 x4 h
set_option maxHeartbeats 2000000 in
theorem fr_B_X12_run_0 (N : Nat) (σ : gI) (τ : gJ) (x1 : Int32) {r : Int32} {σ1 : gI} {τ1 : gJ} (h : B_X12_run_0 N σ τ x1 = some (r, σ1, τ1)) : (∀ c k : Nat, ¬ (c = 206 ∨ c = 218 ∨ c = 219 ∨ (c = 199 ∧ (k = 0 ∨ k = 1 ∨ k = 34 ∨ k = 36))) → σ1 c k = σ c k) ∧ (∀ c k : Nat, c ≠ 200 → τ1 c k = τ c k) := by
  unfold B_X12_run_0 at h
  obtain ⟨σ_1, e_1, h⟩ := nm_some h
  obtain ⟨r_2, σ_2, τ_2, q_2, h⟩ := bd_some h
  have f_2 := fr_B_X12_in_0 N σ_1 τ x1.toInt64 0 99 q_2
  by_cases c_1 : r_2 = 0
  · rw [if_pos c_1] at h
    obtain ⟨rfl, rfl, rfl⟩ := sm_inj h
    refine ⟨fun c k hn => ?_, fun c k hn => ?_⟩
    · rw [f_2.1 c k id, e_1, up2_ne (by omega)]
    · rw [f_2.2 c k]
  · rw [if_neg c_1] at h
    obtain ⟨r_4, σ_4, τ_4, q_4, h⟩ := bd_some h
    have f_4 := fr_B_X12_putsBy_0 N σ_2 τ_2 q_4
    obtain ⟨r_5, σ_5, τ_5, q_5, h⟩ := bd_some h
    have f_5 := fr_B_X12_thoseHow_0 N 206 σ_4 τ_4 1 q_5
    obtain ⟨r_6, σ_6, τ_6, q_6, h⟩ := bd_some h
    have f_6 := fr_B_X12_thoseHow_0 N 206 σ_5 τ_5 2 q_6
    have f9 := fr_H_X12_run_44 N N σ_6 τ_6 x1 r_5 r_6 0 _ _ _ h
    refine ⟨fun c k hn => (f9.1 c k hn).trans ?_, fun c k hn => (f9.2 c k hn).trans ?_⟩
    · rw [f_6.1 c k id, f_5.1 c k id, f_4.1 c k (by omega), f_2.1 c k id, e_1, up2_ne (by omega)]
    · rw [f_6.2 c k, f_5.2 c k, f_4.2 c k, f_2.2 c k]
set_option maxHeartbeats 2000000 in
theorem fr_B_X12_sail_0 (N : Nat) (σ : gI) (τ : gJ) (x1 : Int32) (x2 : Int32) (x3 : Int32) (x4 : Int32) (x5 : Int32) {r : Int32} {σ1 : gI} {τ1 : gJ} (h : B_X12_sail_0 N σ τ x1 x2 x3 x4 x5 = some (r, σ1, τ1)) : (∀ c k : Nat, ¬ (c = 218 ∨ c = 224 ∨ (c = 199 ∧ (k = 0 ∨ k = 34 ∨ k = 45 ∨ k = 46))) → σ1 c k = σ c k) ∧ (∀ c k : Nat, τ1 c k = τ c k) := by
  unfold B_X12_sail_0 at h
  obtain ⟨σ_1, e_1, h⟩ := nm_some h
  obtain ⟨r_2, σ_2, τ_2, q_2, h⟩ := bd_some h
  have f_2 := fr_B_X12_canSail_0 N σ_1 τ x1 x2 x3 x5 q_2
  by_cases c_1 : r_2 = 0
  · rw [if_pos c_1] at h
    obtain ⟨rfl, rfl, rfl⟩ := sm_inj h
    refine ⟨fun c k hn => ?_, fun c k => ?_⟩
    · rw [f_2.1 c k id, e_1, up2_ne (by omega)]
    · rw [f_2.2 c k]
  · rw [if_neg c_1] at h
    obtain ⟨r_4, σ_4, τ_4, q_4, h⟩ := bd_some h
    have f_4 := fr_B_X12_in_0 N σ_2 τ_2 x4.toInt64 0 99 q_4
    by_cases c_2 : r_4 = 0
    · rw [if_pos c_2] at h
      obtain ⟨rfl, rfl, rfl⟩ := sm_inj h
      refine ⟨fun c k hn => ?_, fun c k => ?_⟩
      · rw [f_4.1 c k id, f_2.1 c k id, e_1, up2_ne (by omega)]
      · rw [f_4.2 c k, f_2.2 c k]
    · rw [if_neg c_2] at h
      obtain ⟨r_6, σ_6, τ_6, q_6, h⟩ := bd_some h
      have f_6 := fr_B_X12_thinksNow_0 N σ_4 τ_4 q_6
      obtain ⟨r_7, σ_7, τ_7, q_7, h⟩ := bd_some h
      have f_7 := fr_B_X12_sails_0 N σ_6 τ_6 x1 x2 x3 x4 x5 q_7
      obtain ⟨rfl, rfl, rfl⟩ := sm_inj h
      refine ⟨fun c k hn => ?_, fun c k => ?_⟩
      · rw [f_7.1 c k (by omega), f_6.1 c k (by omega), f_4.1 c k id, f_2.1 c k id, e_1, up2_ne (by omega)]
      · rw [f_7.2 c k, f_6.2 c k, f_4.2 c k, f_2.2 c k]
set_option maxHeartbeats 2000000 in
theorem fr_B_X12_saves_50 (N : Nat) (rec_15 : gI → gJ → Int32 → Int32 → Int32 → Int32 → Int32 → Int32 → Int32 → Option (Int32 × gI × gJ)) (hrec_15 : ∀ (σ : gI) (τ : gJ) (x1 : Int32) (x2 : Int32) (x3 : Int32) (x4 : Int32) (x5 : Int32) (x6 : Int32) (x7 : Int32) (r : Int32) (σ1 : gI) (τ1 : gJ), rec_15 σ τ x1 x2 x3 x4 x5 x6 x7 = some (r, σ1, τ1) → (∀ c k : Nat, ¬ (c = 207 ∨ c = 218 ∨ (c = 199 ∧ (k = 1 ∨ k = 34))) → σ1 c k = σ c k) ∧ (∀ c k : Nat, c ≠ 200 → τ1 c k = τ c k)) (σ : gI) (τ : gJ) (x1 : Int32) (x2 : Int32) (x3 : Int32) (x4 : Int32) (x5 : Int32) (x6 : Int32) (x7 : Int32) {r : Int32} {σ1 : gI} {τ1 : gJ} (h : B_X12_saves_50 N rec_15 σ τ x1 x2 x3 x4 x5 x6 x7 = some (r, σ1, τ1)) : (∀ c k : Nat, ¬ (c = 207 ∨ c = 218 ∨ (c = 199 ∧ (k = 1 ∨ k = 34))) → σ1 c k = σ c k) ∧ (∀ c k : Nat, c ≠ 200 → τ1 c k = τ c k) := by
  unfold B_X12_saves_50 at h
  obtain ⟨r_1, σ_1, τ_1, q_1, h⟩ := bd_some h
  have f_1 := fr_B_X12_savedAfter_0 N σ τ x1 x7 q_1
  by_cases c_1 : r_1 < 0
  · rw [if_pos c_1] at h
    obtain ⟨v_3, e_3, h⟩ := nm_some h
    have f9 := hrec_15 σ_1 τ_1 x1 x2 x3 x4 x5 x6 v_3 _ _ _ h
    refine ⟨fun c k hn => (f9.1 c k hn).trans ?_, fun c k hn => (f9.2 c k hn).trans ?_⟩
    · rw [f_1.1 c k (by omega)]
    · rw [f_1.2 c k]
  · rw [if_neg c_1] at h
    by_cases c_2 : x2 < 0
    · rw [if_pos c_2] at h
      obtain ⟨v_5, e_5, h⟩ := nm_some h
      have f9 := hrec_15 σ_1 τ_1 x1 x2 x3 x4 x7 r_1 v_5 _ _ _ h
      refine ⟨fun c k hn => (f9.1 c k hn).trans ?_, fun c k hn => (f9.2 c k hn).trans ?_⟩
      · rw [f_1.1 c k (by omega)]
      · rw [f_1.2 c k]
    · rw [if_neg c_2] at h
      obtain ⟨j_6, -, -, h⟩ := ck_some h
      by_cases c_3 : σ_1 207 j_6 = x2
      · rw [if_pos c_3] at h
        obtain ⟨v_9, e_9, h⟩ := nm_some h
        have f9 := hrec_15 σ_1 τ_1 x1 x2 x3 x4 x7 r_1 v_9 _ _ _ h
        refine ⟨fun c k hn => (f9.1 c k hn).trans ?_, fun c k hn => (f9.2 c k hn).trans ?_⟩
        · rw [f_1.1 c k (by omega)]
        · rw [f_1.2 c k]
      · rw [if_neg c_3] at h
        obtain ⟨v_8, e_8, h⟩ := nm_some h
        have f9 := hrec_15 σ_1 τ_1 x1 x2 x3 x4 x5 x6 v_8 _ _ _ h
        refine ⟨fun c k hn => (f9.1 c k hn).trans ?_, fun c k hn => (f9.2 c k hn).trans ?_⟩
        · rw [f_1.1 c k (by omega)]
        · rw [f_1.2 c k]
set_option maxHeartbeats 2000000 in
theorem fr_C_X12_saves_15 (N : Nat) (rec_15 : gI → gJ → Int32 → Int32 → Int32 → Int32 → Int32 → Int32 → Int32 → Option (Int32 × gI × gJ)) (hrec_15 : ∀ (σ : gI) (τ : gJ) (x1 : Int32) (x2 : Int32) (x3 : Int32) (x4 : Int32) (x5 : Int32) (x6 : Int32) (x7 : Int32) (r : Int32) (σ1 : gI) (τ1 : gJ), rec_15 σ τ x1 x2 x3 x4 x5 x6 x7 = some (r, σ1, τ1) → (∀ c k : Nat, ¬ (c = 207 ∨ c = 218 ∨ (c = 199 ∧ (k = 1 ∨ k = 34))) → σ1 c k = σ c k) ∧ (∀ c k : Nat, c ≠ 200 → τ1 c k = τ c k)) (σ : gI) (τ : gJ) (x1 : Int32) (x2 : Int32) (x3 : Int32) (x4 : Int32) (x5 : Int32) (x6 : Int32) (x7 : Int32) {r : Int32} {σ1 : gI} {τ1 : gJ} (h : C_X12_saves_15 N rec_15 σ τ x1 x2 x3 x4 x5 x6 x7 = some (r, σ1, τ1)) : (∀ c k : Nat, ¬ (c = 207 ∨ c = 218 ∨ (c = 199 ∧ (k = 1 ∨ k = 34))) → σ1 c k = σ c k) ∧ (∀ c k : Nat, c ≠ 200 → τ1 c k = τ c k) := by
  unfold C_X12_saves_15 at h
  by_cases c_1 : x4 < x7
  · rw [if_pos c_1] at h
    by_cases c_2 : 0 ≤ x5
    · rw [if_pos c_2] at h
      obtain ⟨σ_3, e_3, h⟩ := nm_some h
      obtain ⟨r_4, σ_4, τ_4, q_4, h⟩ := bd_some h
      have f_4 := fr_B_X12_enters_0 N σ_3 τ x5.toInt64 q_4
      obtain ⟨r_5, σ_5, τ_5, q_5, h⟩ := bd_some h
      have f_5 := fr_B_X12_enters_0 N σ_4 τ_4 x6.toInt64 q_5
      obtain ⟨r_6, σ_6, τ_6, q_6, h⟩ := bd_some h
      have f_6 := fr_B_J6_bitCount_0f7a4_0 N σ_5 τ_5 x5 q_6
      obtain ⟨rfl, rfl, rfl⟩ := sm_inj h
      refine ⟨fun c k hn => ?_, fun c k hn => ?_⟩
      · rw [f_6.1 c k id, f_5.1 c k (by omega), f_4.1 c k (by omega), e_3, up2_ne (by omega)]
      · rw [f_6.2 c k, f_5.2 c k hn, f_4.2 c k hn]
    · rw [if_neg c_2] at h
      obtain ⟨rfl, rfl, rfl⟩ := sm_inj h
      refine ⟨fun c k hn => ?_, fun c k hn => ?_⟩
      · rfl
      · rfl
  · rw [if_neg c_1] at h
    by_cases c_3 : x7 &&& (x4 ^^^ (-1)) = 0
    · rw [if_pos c_3] at h
      by_cases c_4 : x5 < 0
      · rw [if_pos c_4] at h
        have f9 := fr_B_X12_saves_50 N rec_15 hrec_15 σ τ x1 x2 x3 x4 x5 x6 x7 h
        refine ⟨fun c k hn => (f9.1 c k hn).trans ?_, fun c k hn => (f9.2 c k hn).trans ?_⟩
        · rfl
        · rfl
      · rw [if_neg c_4] at h
        obtain ⟨r_10, σ_10, τ_10, q_10, h⟩ := bd_some h
        have f_10 := fr_B_J6_bitCount_0f7a4_0 N σ τ x7 q_10
        obtain ⟨r_11, σ_11, τ_11, q_11, h⟩ := bd_some h
        have f_11 := fr_B_J6_bitCount_0f7a4_0 N σ_10 τ_10 x5 q_11
        by_cases c_5 : r_11 ≤ r_10
        · rw [if_pos c_5] at h
          obtain ⟨v_13, e_13, h⟩ := nm_some h
          have f9 := hrec_15 σ_11 τ_11 x1 x2 x3 x4 x5 x6 v_13 _ _ _ h
          refine ⟨fun c k hn => (f9.1 c k hn).trans ?_, fun c k hn => (f9.2 c k hn).trans ?_⟩
          · rw [f_11.1 c k id, f_10.1 c k id]
          · rw [f_11.2 c k, f_10.2 c k]
        · rw [if_neg c_5] at h
          have f9 := fr_B_X12_saves_50 N rec_15 hrec_15 σ_11 τ_11 x1 x2 x3 x4 x5 x6 x7 h
          refine ⟨fun c k hn => (f9.1 c k hn).trans ?_, fun c k hn => (f9.2 c k hn).trans ?_⟩
          · rw [f_11.1 c k id, f_10.1 c k id]
          · rw [f_11.2 c k, f_10.2 c k]
    · rw [if_neg c_3] at h
      obtain ⟨v_8, e_8, h⟩ := nm_some h
      have f9 := hrec_15 σ τ x1 x2 x3 x4 x5 x6 v_8 _ _ _ h
      refine ⟨fun c k hn => (f9.1 c k hn).trans ?_, fun c k hn => (f9.2 c k hn).trans ?_⟩
      · rfl
      · rfl
theorem fr_H_X12_saves_15 (N : Nat) : ∀ (n : Nat) (σ : gI) (τ : gJ) (x1 : Int32) (x2 : Int32) (x3 : Int32) (x4 : Int32) (x5 : Int32) (x6 : Int32) (x7 : Int32) (r : Int32) (σ1 : gI) (τ1 : gJ), H_X12_saves_15 N n σ τ x1 x2 x3 x4 x5 x6 x7 = some (r, σ1, τ1) → (∀ c k : Nat, ¬ (c = 207 ∨ c = 218 ∨ (c = 199 ∧ (k = 1 ∨ k = 34))) → σ1 c k = σ c k) ∧ (∀ c k : Nat, c ≠ 200 → τ1 c k = τ c k) := by
  intro n
  induction n with
  | zero => intro σ τ x1 x2 x3 x4 x5 x6 x7 r σ1 τ1 h; cases h
  | succ n ih =>
    intro σ τ x1 x2 x3 x4 x5 x6 x7 r σ1 τ1 h
    exact fr_C_X12_saves_15 N (H_X12_saves_15 N n) ih σ τ x1 x2 x3 x4 x5 x6 x7 h
set_option maxHeartbeats 2000000 in
theorem fr_B_X12_saves_0 (N : Nat) (σ : gI) (τ : gJ) (x1 : Int32) (x2 : Int32) (x3 : Int32) {r : Int32} {σ1 : gI} {τ1 : gJ} (h : B_X12_saves_0 N σ τ x1 x2 x3 = some (r, σ1, τ1)) : (∀ c k : Nat, ¬ (c = 207 ∨ c = 218 ∨ (c = 199 ∧ (k = 1 ∨ k = 34))) → σ1 c k = σ c k) ∧ (∀ c k : Nat, c ≠ 200 → τ1 c k = τ c k) := by
  unfold B_X12_saves_0 at h
  obtain ⟨r_1, σ_1, τ_1, q_1, h⟩ := bd_some h
  have f_1 := fr_B_X12_forks_0 N σ τ q_1
  have f9 := fr_H_X12_saves_15 N N σ_1 τ_1 x1 x2 x3 r_1 (-1) 0 0 _ _ _ h
  refine ⟨fun c k hn => (f9.1 c k hn).trans ?_, fun c k hn => (f9.2 c k hn).trans ?_⟩
  · rw [f_1.1 c k id]
  · rw [f_1.2 c k]
set_option maxHeartbeats 2000000 in
theorem fr_B_X12_save_0 (N : Nat) (σ : gI) (τ : gJ) (x1 : Int32) {r : Int32} {σ1 : gI} {τ1 : gJ} (h : B_X12_save_0 N σ τ x1 = some (r, σ1, τ1)) : (∀ c k : Nat, ¬ (c = 207 ∨ c = 218 ∨ (c = 199 ∧ (k = 0 ∨ k = 1 ∨ k = 34))) → σ1 c k = σ c k) ∧ (∀ c k : Nat, c ≠ 200 → τ1 c k = τ c k) := by
  unfold B_X12_save_0 at h
  obtain ⟨σ_1, e_1, h⟩ := nm_some h
  obtain ⟨r_2, σ_2, τ_2, q_2, h⟩ := bd_some h
  have f_2 := fr_B_X12_in_0 N σ_1 τ x1.toInt64 0 (((1 <<< ((σ_1 206 44) &&& 31)) - 1).toInt64) q_2
  by_cases c_1 : r_2 = 0
  · rw [if_pos c_1] at h
    obtain ⟨rfl, rfl, rfl⟩ := sm_inj h
    refine ⟨fun c k hn => ?_, fun c k hn => ?_⟩
    · rw [f_2.1 c k id, e_1, up2_ne (by omega)]
    · rw [f_2.2 c k]
  · rw [if_neg c_1] at h
    obtain ⟨r_4, σ_4, τ_4, q_4, h⟩ := bd_some h
    have f_4 := fr_B_X12_saves_0 N σ_2 τ_2 x1 (-1) 0 q_4
    obtain ⟨rfl, rfl, rfl⟩ := sm_inj h
    refine ⟨fun c k hn => ?_, fun c k hn => ?_⟩
    · rw [f_4.1 c k (by omega), f_2.1 c k id, e_1, up2_ne (by omega)]
    · rw [f_4.2 c k hn, f_2.2 c k]
set_option maxHeartbeats 2000000 in
theorem fr_B_X12_sheet_120 (N : Nat) (rec_46 : gI → gJ → Int32 → Int32 → Int32 → Int32 → Int32 → Int32 → Option (Int32 × gI × gJ)) (hrec_46 : ∀ (σ : gI) (τ : gJ) (x1 : Int32) (x2 : Int32) (x4 : Int32) (x5 : Int32) (x6 : Int32) (x7 : Int32) (r : Int32) (σ1 : gI) (τ1 : gJ), rec_46 σ τ x1 x2 x4 x5 x6 x7 = some (r, σ1, τ1) → (∀ c k : Nat, ¬ (c = 206 ∨ (c = 199 ∧ (k = 0))) → σ1 c k = σ c k) ∧ (∀ c k : Nat, τ1 c k = τ c k)) (σ : gI) (τ : gJ) (x1 : Int32) (x2 : Int32) (x4 : Int32) (x5 : Int32) (x6 : Int32) (x7 : Int32) (y0 : Int32) (y1 : Int32) {r : Int32} {σ1 : gI} {τ1 : gJ} (h : B_X12_sheet_120 N rec_46 σ τ x1 x2 x4 x5 x6 x7 y0 y1 = some (r, σ1, τ1)) : (∀ c k : Nat, ¬ (c = 206 ∨ (c = 199 ∧ (k = 0))) → σ1 c k = σ c k) ∧ (∀ c k : Nat, τ1 c k = τ c k) := by
  unfold B_X12_sheet_120 at h
  obtain ⟨j_1, -, -, h⟩ := ck_some h
  obtain ⟨σ_2, e_2, h⟩ := nm_some h
  obtain ⟨j_3, -, -, h⟩ := ck_some h
  obtain ⟨v_4, e_4, h⟩ := nm_some h
  obtain ⟨v_5, e_5, h⟩ := nm_some h
  obtain ⟨v_6, e_6, h⟩ := nm_some h
  have f9 := hrec_46 σ_2 τ x1 x2 x4 v_4 v_5 v_6 _ _ _ h
  refine ⟨fun c k hn => (f9.1 c k hn).trans ?_, fun c k => (f9.2 c k).trans ?_⟩
  · rw [e_2, up2_ne (by omega)]
  · rfl
set_option maxHeartbeats 2000000 in
theorem fr_B_X12_sheet_81 (N : Nat) (rec_46 : gI → gJ → Int32 → Int32 → Int32 → Int32 → Int32 → Int32 → Option (Int32 × gI × gJ)) (hrec_46 : ∀ (σ : gI) (τ : gJ) (x1 : Int32) (x2 : Int32) (x4 : Int32) (x5 : Int32) (x6 : Int32) (x7 : Int32) (r : Int32) (σ1 : gI) (τ1 : gJ), rec_46 σ τ x1 x2 x4 x5 x6 x7 = some (r, σ1, τ1) → (∀ c k : Nat, ¬ (c = 206 ∨ (c = 199 ∧ (k = 0))) → σ1 c k = σ c k) ∧ (∀ c k : Nat, τ1 c k = τ c k)) (σ : gI) (τ : gJ) (x1 : Int32) (x2 : Int32) (x4 : Int32) (x5 : Int32) (x6 : Int32) (x7 : Int32) (y0 : Int32) {r : Int32} {σ1 : gI} {τ1 : gJ} (h : B_X12_sheet_81 N rec_46 σ τ x1 x2 x4 x5 x6 x7 y0 = some (r, σ1, τ1)) : (∀ c k : Nat, ¬ (c = 206 ∨ (c = 199 ∧ (k = 0))) → σ1 c k = σ c k) ∧ (∀ c k : Nat, τ1 c k = τ c k) := by
  unfold B_X12_sheet_81 at h
  by_cases c_1 : x1 = 3
  · rw [if_pos c_1] at h
    have f9 := fr_B_X12_sheet_120 N rec_46 hrec_46 σ τ x1 x2 x4 x5 x6 x7 0 ((7 * x7) + 1) h
    refine ⟨fun c k hn => (f9.1 c k hn).trans ?_, fun c k => (f9.2 c k).trans ?_⟩
    · rfl
    · rfl
  · rw [if_neg c_1] at h
    by_cases c_2 : x7 < x2
    · rw [if_pos c_2] at h
      have f9 := fr_B_X12_sheet_120 N rec_46 hrec_46 σ τ x1 x2 x4 x5 x6 x7 (imax 0 (imin 99 y0)) ((7 * x7) + 1) h
      refine ⟨fun c k hn => (f9.1 c k hn).trans ?_, fun c k => (f9.2 c k).trans ?_⟩
      · rfl
      · rfl
    · rw [if_neg c_2] at h
      have f9 := fr_B_X12_sheet_120 N rec_46 hrec_46 σ τ x1 x2 x4 x5 x6 x7 0 ((7 * x7) + 1) h
      refine ⟨fun c k hn => (f9.1 c k hn).trans ?_, fun c k => (f9.2 c k).trans ?_⟩
      · rfl
      · rfl
set_option maxHeartbeats 2000000 in
theorem fr_C_X12_sheet_46 (N : Nat) (rec_46 : gI → gJ → Int32 → Int32 → Int32 → Int32 → Int32 → Int32 → Option (Int32 × gI × gJ)) (hrec_46 : ∀ (σ : gI) (τ : gJ) (x1 : Int32) (x2 : Int32) (x4 : Int32) (x5 : Int32) (x6 : Int32) (x7 : Int32) (r : Int32) (σ1 : gI) (τ1 : gJ), rec_46 σ τ x1 x2 x4 x5 x6 x7 = some (r, σ1, τ1) → (∀ c k : Nat, ¬ (c = 206 ∨ (c = 199 ∧ (k = 0))) → σ1 c k = σ c k) ∧ (∀ c k : Nat, τ1 c k = τ c k)) (σ : gI) (τ : gJ) (x1 : Int32) (x2 : Int32) (x4 : Int32) (x5 : Int32) (x6 : Int32) (x7 : Int32) {r : Int32} {σ1 : gI} {τ1 : gJ} (h : C_X12_sheet_46 N rec_46 σ τ x1 x2 x4 x5 x6 x7 = some (r, σ1, τ1)) : (∀ c k : Nat, ¬ (c = 206 ∨ (c = 199 ∧ (k = 0))) → σ1 c k = σ c k) ∧ (∀ c k : Nat, τ1 c k = τ c k) := by
  unfold C_X12_sheet_46 at h
  by_cases c_1 : σ 206 44 ≤ x7
  · rw [if_pos c_1] at h
    by_cases c_2 : x1 = 3
    · rw [if_pos c_2] at h
      obtain ⟨rfl, rfl, rfl⟩ := sm_inj h
      refine ⟨fun c k hn => ?_, fun c k => ?_⟩
      · rfl
      · rfl
    · rw [if_neg c_2] at h
      obtain ⟨rfl, rfl, rfl⟩ := sm_inj h
      refine ⟨fun c k hn => ?_, fun c k => ?_⟩
      · rfl
      · rfl
  · rw [if_neg c_1] at h
    by_cases c_3 : x1 = 0
    · rw [if_pos c_3] at h
      have f9 := fr_B_X12_sheet_81 N rec_46 hrec_46 σ τ x1 x2 x4 x5 x6 x7 x6.toInt8.toInt32 h
      refine ⟨fun c k hn => (f9.1 c k hn).trans ?_, fun c k => (f9.2 c k).trans ?_⟩
      · rfl
      · rfl
    · rw [if_neg c_3] at h
      by_cases c_4 : x1 = 1
      · rw [if_pos c_4] at h
        have f9 := fr_B_X12_sheet_81 N rec_46 hrec_46 σ τ x1 x2 x4 x5 x6 x7 x6.toInt16.toInt32 h
        refine ⟨fun c k hn => (f9.1 c k hn).trans ?_, fun c k => (f9.2 c k).trans ?_⟩
        · rfl
        · rfl
      · rw [if_neg c_4] at h
        have f9 := fr_B_X12_sheet_81 N rec_46 hrec_46 σ τ x1 x2 x4 x5 x6 x7 x6 h
        refine ⟨fun c k hn => (f9.1 c k hn).trans ?_, fun c k => (f9.2 c k).trans ?_⟩
        · rfl
        · rfl
theorem fr_H_X12_sheet_46 (N : Nat) : ∀ (n : Nat) (σ : gI) (τ : gJ) (x1 : Int32) (x2 : Int32) (x4 : Int32) (x5 : Int32) (x6 : Int32) (x7 : Int32) (r : Int32) (σ1 : gI) (τ1 : gJ), H_X12_sheet_46 N n σ τ x1 x2 x4 x5 x6 x7 = some (r, σ1, τ1) → (∀ c k : Nat, ¬ (c = 206 ∨ (c = 199 ∧ (k = 0))) → σ1 c k = σ c k) ∧ (∀ c k : Nat, τ1 c k = τ c k) := by
  intro n
  induction n with
  | zero => intro σ τ x1 x2 x4 x5 x6 x7 r σ1 τ1 h; cases h
  | succ n ih =>
    intro σ τ x1 x2 x4 x5 x6 x7 r σ1 τ1 h
    exact fr_C_X12_sheet_46 N (H_X12_sheet_46 N n) ih σ τ x1 x2 x4 x5 x6 x7 h
set_option maxHeartbeats 2000000 in
theorem fr_B_X12_sheet_0 (N : Nat) (σ : gI) (τ : gJ) (x1 : Int32) (x2 : Int32) (x3 : Int32) (x4 : Int32) {r : Int32} {σ1 : gI} {τ1 : gJ} (h : B_X12_sheet_0 N σ τ x1 x2 x3 x4 = some (r, σ1, τ1)) : (∀ c k : Nat, ¬ (c = 206 ∨ (c = 199 ∧ (k = 0))) → σ1 c k = σ c k) ∧ (∀ c k : Nat, τ1 c k = τ c k) := by
  unfold B_X12_sheet_0 at h
  obtain ⟨σ_1, e_1, h⟩ := nm_some h
  obtain ⟨r_2, σ_2, τ_2, q_2, h⟩ := bd_some h
  have f_2 := fr_B_X12_in_0 N σ_1 τ x1.toInt64 0 3 q_2
  by_cases c_1 : r_2 = 0
  · rw [if_pos c_1] at h
    obtain ⟨rfl, rfl, rfl⟩ := sm_inj h
    refine ⟨fun c k hn => ?_, fun c k => ?_⟩
    · rw [f_2.1 c k id, e_1, up2_ne (by omega)]
    · rw [f_2.2 c k]
  · rw [if_neg c_1] at h
    by_cases c_2 : x2 ≤ 6
    · rw [if_pos c_2] at h
      by_cases c_3 : x1 = 3
      · rw [if_pos c_3] at h
        have f9 := fr_H_X12_sheet_46 N N σ_2 τ_2 x1 x2 x4 0 x3 0 _ _ _ h
        refine ⟨fun c k hn => (f9.1 c k hn).trans ?_, fun c k => (f9.2 c k).trans ?_⟩
        · rw [f_2.1 c k id, e_1, up2_ne (by omega)]
        · rw [f_2.2 c k]
      · rw [if_neg c_3] at h
        by_cases c_4 : 0 ≤ x2
        · rw [if_pos c_4] at h
          have f9 := fr_H_X12_sheet_46 N N σ_2 τ_2 x1 x2 x4 0 x3 0 _ _ _ h
          refine ⟨fun c k hn => (f9.1 c k hn).trans ?_, fun c k => (f9.2 c k).trans ?_⟩
          · rw [f_2.1 c k id, e_1, up2_ne (by omega)]
          · rw [f_2.2 c k]
        · rw [if_neg c_4] at h
          obtain ⟨rfl, rfl, rfl⟩ := sm_inj h
          refine ⟨fun c k hn => ?_, fun c k => ?_⟩
          · rw [f_2.1 c k id, e_1, up2_ne (by omega)]
          · rw [f_2.2 c k]
    · rw [if_neg c_2] at h
      obtain ⟨rfl, rfl, rfl⟩ := sm_inj h
      refine ⟨fun c k hn => ?_, fun c k => ?_⟩
      · rw [f_2.1 c k id, e_1, up2_ne (by omega)]
      · rw [f_2.2 c k]
set_option maxHeartbeats 2000000 in
theorem fr_C_X12_sign_18 (N : Nat) (rec_18 : gI → gJ → Int32 → Int32 → Option (Int32 × gI × gJ)) (hrec_18 : ∀ (σ : gI) (τ : gJ) (x1 : Int32) (x2 : Int32) (r : Int32) (σ1 : gI) (τ1 : gJ), rec_18 σ τ x1 x2 = some (r, σ1, τ1) → (∀ c k : Nat, ¬ (c = 208 ∨ (c = 199 ∧ (k = 0 ∨ k = 13))) → σ1 c k = σ c k) ∧ (∀ c k : Nat, τ1 c k = τ c k)) (σ : gI) (τ : gJ) (x1 : Int32) (x2 : Int32) {r : Int32} {σ1 : gI} {τ1 : gJ} (h : C_X12_sign_18 N rec_18 σ τ x1 x2 = some (r, σ1, τ1)) : (∀ c k : Nat, ¬ (c = 208 ∨ (c = 199 ∧ (k = 0 ∨ k = 13))) → σ1 c k = σ c k) ∧ (∀ c k : Nat, τ1 c k = τ c k) := by
  unfold C_X12_sign_18 at h
  by_cases c_1 : 4 ≤ x2
  · rw [if_pos c_1] at h
    obtain ⟨σ_2, e_2, h⟩ := nm_some h
    obtain ⟨rfl, rfl, rfl⟩ := sm_inj h
    refine ⟨fun c k hn => ?_, fun c k => ?_⟩
    · rw [e_2, up2_ne (by omega)]
    · rfl
  · rw [if_neg c_1] at h
    obtain ⟨j_3, -, -, h⟩ := ck_some h
    obtain ⟨σ_4, e_4, h⟩ := nm_some h
    obtain ⟨v_5, e_5, h⟩ := nm_some h
    have f9 := hrec_18 σ_4 τ x1 v_5 _ _ _ h
    refine ⟨fun c k hn => (f9.1 c k hn).trans ?_, fun c k => (f9.2 c k).trans ?_⟩
    · rw [e_4, up2_ne (by omega)]
    · rfl
theorem fr_H_X12_sign_18 (N : Nat) : ∀ (n : Nat) (σ : gI) (τ : gJ) (x1 : Int32) (x2 : Int32) (r : Int32) (σ1 : gI) (τ1 : gJ), H_X12_sign_18 N n σ τ x1 x2 = some (r, σ1, τ1) → (∀ c k : Nat, ¬ (c = 208 ∨ (c = 199 ∧ (k = 0 ∨ k = 13))) → σ1 c k = σ c k) ∧ (∀ c k : Nat, τ1 c k = τ c k) := by
  intro n
  induction n with
  | zero => intro σ τ x1 x2 r σ1 τ1 h; cases h
  | succ n ih =>
    intro σ τ x1 x2 r σ1 τ1 h
    exact fr_C_X12_sign_18 N (H_X12_sign_18 N n) ih σ τ x1 x2 h
set_option maxHeartbeats 2000000 in
theorem fr_B_X12_sign_0 (N : Nat) (σ : gI) (τ : gJ) (x1 : Int32) {r : Int32} {σ1 : gI} {τ1 : gJ} (h : B_X12_sign_0 N σ τ x1 = some (r, σ1, τ1)) : (∀ c k : Nat, ¬ (c = 208 ∨ (c = 199 ∧ (k = 0 ∨ k = 13))) → σ1 c k = σ c k) ∧ (∀ c k : Nat, τ1 c k = τ c k) := by
  unfold B_X12_sign_0 at h
  obtain ⟨σ_1, e_1, h⟩ := nm_some h
  by_cases c_1 : σ_1 199 13 ≤ 76
  · rw [if_pos c_1] at h
    have f9 := fr_H_X12_sign_18 N N σ_1 τ x1 0 _ _ _ h
    refine ⟨fun c k hn => (f9.1 c k hn).trans ?_, fun c k => (f9.2 c k).trans ?_⟩
    · rw [e_1, up2_ne (by omega)]
    · rfl
  · rw [if_neg c_1] at h
    obtain ⟨rfl, rfl, rfl⟩ := sm_inj h
    refine ⟨fun c k hn => ?_, fun c k => ?_⟩
    · rw [e_1, up2_ne (by omega)]
    · rfl
set_option maxHeartbeats 2000000 in
theorem fr_C_X12_soonest_47 (N : Nat) (rec_35 : gI → gJ → Int32 → Int32 → Int32 → Int32 → Int32 → Int32 → Int32 → Option (Int32 × gI × gJ)) (hrec_35 : ∀ (σ : gI) (τ : gJ) (x1 : Int32) (x2 : Int32) (x3 : Int32) (x4 : Int32) (x5 : Int32) (x6 : Int32) (x7 : Int32) (r : Int32) (σ1 : gI) (τ1 : gJ), rec_35 σ τ x1 x2 x3 x4 x5 x6 x7 = some (r, σ1, τ1) → (∀ c k : Nat, ¬ (c = 218 ∨ c = 224 ∨ (c = 199 ∧ (k = 0 ∨ k = 1 ∨ k = 34 ∨ k = 45 ∨ k = 46))) → σ1 c k = σ c k) ∧ (∀ c k : Nat, c ≠ 200 → τ1 c k = τ c k)) (rec_47 : gI → gJ → Int32 → Int32 → Int32 → Int32 → Int32 → Int32 → Int32 → Int32 → Option (Int32 × gI × gJ)) (hrec_47 : ∀ (σ : gI) (τ : gJ) (x1 : Int32) (x2 : Int32) (x3 : Int32) (x4 : Int32) (x5 : Int32) (x6 : Int32) (x7 : Int32) (x8 : Int32) (r : Int32) (σ1 : gI) (τ1 : gJ), rec_47 σ τ x1 x2 x3 x4 x5 x6 x7 x8 = some (r, σ1, τ1) → (∀ c k : Nat, ¬ (c = 218 ∨ c = 224 ∨ (c = 199 ∧ (k = 0 ∨ k = 1 ∨ k = 34 ∨ k = 45 ∨ k = 46))) → σ1 c k = σ c k) ∧ (∀ c k : Nat, c ≠ 200 → τ1 c k = τ c k)) (σ : gI) (τ : gJ) (x1 : Int32) (x2 : Int32) (x3 : Int32) (x4 : Int32) (x5 : Int32) (x6 : Int32) (x7 : Int32) (x8 : Int32) {r : Int32} {σ1 : gI} {τ1 : gJ} (h : C_X12_soonest_47 N rec_35 rec_47 σ τ x1 x2 x3 x4 x5 x6 x7 x8 = some (r, σ1, τ1)) : (∀ c k : Nat, ¬ (c = 218 ∨ c = 224 ∨ (c = 199 ∧ (k = 0 ∨ k = 1 ∨ k = 34 ∨ k = 45 ∨ k = 46))) → σ1 c k = σ c k) ∧ (∀ c k : Nat, c ≠ 200 → τ1 c k = τ c k) := by
  unfold C_X12_soonest_47 at h
  by_cases c_1 : 30 < x8
  · rw [if_pos c_1] at h
    obtain ⟨v_2, e_2, h⟩ := nm_some h
    have f9 := hrec_35 σ τ x1 x2 x3 x4 x5 x6 v_2 _ _ _ h
    refine ⟨fun c k hn => (f9.1 c k hn).trans ?_, fun c k hn => (f9.2 c k hn).trans ?_⟩
    · rfl
    · rfl
  · rw [if_neg c_1] at h
    by_cases c_2 : x7 = x3
    · rw [if_pos c_2] at h
      obtain ⟨v_4, e_4, h⟩ := nm_some h
      have f9 := hrec_35 σ τ x1 x2 x3 x4 x5 x6 v_4 _ _ _ h
      refine ⟨fun c k hn => (f9.1 c k hn).trans ?_, fun c k hn => (f9.2 c k hn).trans ?_⟩
      · rfl
      · rfl
    · rw [if_neg c_2] at h
      obtain ⟨r_5, σ_5, τ_5, q_5, h⟩ := bd_some h
      have f_5 := fr_B_X12_sails_0 N σ τ x7 x1 x2 x8 x3 q_5
      by_cases c_3 : r_5 < 0
      · rw [if_pos c_3] at h
        obtain ⟨v_7, e_7, h⟩ := nm_some h
        have f9 := hrec_47 σ_5 τ_5 x1 x2 x3 x4 x5 x6 x7 v_7 _ _ _ h
        refine ⟨fun c k hn => (f9.1 c k hn).trans ?_, fun c k hn => (f9.2 c k hn).trans ?_⟩
        · rw [f_5.1 c k (by omega)]
        · rw [f_5.2 c k]
      · rw [if_neg c_3] at h
        by_cases c_4 : x4 < 0
        · rw [if_pos c_4] at h
          obtain ⟨v_9, e_9, h⟩ := nm_some h
          have f9 := hrec_47 σ_5 τ_5 x1 x2 x3 r_5 x7 x8 x7 v_9 _ _ _ h
          refine ⟨fun c k hn => (f9.1 c k hn).trans ?_, fun c k hn => (f9.2 c k hn).trans ?_⟩
          · rw [f_5.1 c k (by omega)]
          · rw [f_5.2 c k]
        · rw [if_neg c_4] at h
          by_cases c_5 : x4 ≤ r_5
          · rw [if_pos c_5] at h
            obtain ⟨v_11, e_11, h⟩ := nm_some h
            have f9 := hrec_47 σ_5 τ_5 x1 x2 x3 x4 x5 x6 x7 v_11 _ _ _ h
            refine ⟨fun c k hn => (f9.1 c k hn).trans ?_, fun c k hn => (f9.2 c k hn).trans ?_⟩
            · rw [f_5.1 c k (by omega)]
            · rw [f_5.2 c k]
          · rw [if_neg c_5] at h
            obtain ⟨v_12, e_12, h⟩ := nm_some h
            have f9 := hrec_47 σ_5 τ_5 x1 x2 x3 r_5 x7 x8 x7 v_12 _ _ _ h
            refine ⟨fun c k hn => (f9.1 c k hn).trans ?_, fun c k hn => (f9.2 c k hn).trans ?_⟩
            · rw [f_5.1 c k (by omega)]
            · rw [f_5.2 c k]
theorem fr_H_X12_soonest_47 (N : Nat) (rec_35 : gI → gJ → Int32 → Int32 → Int32 → Int32 → Int32 → Int32 → Int32 → Option (Int32 × gI × gJ)) (hrec_35 : ∀ (σ : gI) (τ : gJ) (x1 : Int32) (x2 : Int32) (x3 : Int32) (x4 : Int32) (x5 : Int32) (x6 : Int32) (x7 : Int32) (r : Int32) (σ1 : gI) (τ1 : gJ), rec_35 σ τ x1 x2 x3 x4 x5 x6 x7 = some (r, σ1, τ1) → (∀ c k : Nat, ¬ (c = 218 ∨ c = 224 ∨ (c = 199 ∧ (k = 0 ∨ k = 1 ∨ k = 34 ∨ k = 45 ∨ k = 46))) → σ1 c k = σ c k) ∧ (∀ c k : Nat, c ≠ 200 → τ1 c k = τ c k)) : ∀ (n : Nat) (σ : gI) (τ : gJ) (x1 : Int32) (x2 : Int32) (x3 : Int32) (x4 : Int32) (x5 : Int32) (x6 : Int32) (x7 : Int32) (x8 : Int32) (r : Int32) (σ1 : gI) (τ1 : gJ), H_X12_soonest_47 N rec_35 n σ τ x1 x2 x3 x4 x5 x6 x7 x8 = some (r, σ1, τ1) → (∀ c k : Nat, ¬ (c = 218 ∨ c = 224 ∨ (c = 199 ∧ (k = 0 ∨ k = 1 ∨ k = 34 ∨ k = 45 ∨ k = 46))) → σ1 c k = σ c k) ∧ (∀ c k : Nat, c ≠ 200 → τ1 c k = τ c k) := by
  intro n
  induction n with
  | zero => intro σ τ x1 x2 x3 x4 x5 x6 x7 x8 r σ1 τ1 h; cases h
  | succ n ih =>
    intro σ τ x1 x2 x3 x4 x5 x6 x7 x8 r σ1 τ1 h
    exact fr_C_X12_soonest_47 N rec_35 hrec_35 (H_X12_soonest_47 N rec_35 n) ih σ τ x1 x2 x3 x4 x5 x6 x7 x8 h
set_option maxHeartbeats 2000000 in
theorem fr_C_X12_soonest_35 (N : Nat) (rec_35 : gI → gJ → Int32 → Int32 → Int32 → Int32 → Int32 → Int32 → Int32 → Option (Int32 × gI × gJ)) (hrec_35 : ∀ (σ : gI) (τ : gJ) (x1 : Int32) (x2 : Int32) (x3 : Int32) (x4 : Int32) (x5 : Int32) (x6 : Int32) (x7 : Int32) (r : Int32) (σ1 : gI) (τ1 : gJ), rec_35 σ τ x1 x2 x3 x4 x5 x6 x7 = some (r, σ1, τ1) → (∀ c k : Nat, ¬ (c = 218 ∨ c = 224 ∨ (c = 199 ∧ (k = 0 ∨ k = 1 ∨ k = 34 ∨ k = 45 ∨ k = 46))) → σ1 c k = σ c k) ∧ (∀ c k : Nat, c ≠ 200 → τ1 c k = τ c k)) (σ : gI) (τ : gJ) (x1 : Int32) (x2 : Int32) (x3 : Int32) (x4 : Int32) (x5 : Int32) (x6 : Int32) (x7 : Int32) {r : Int32} {σ1 : gI} {τ1 : gJ} (h : C_X12_soonest_35 N rec_35 σ τ x1 x2 x3 x4 x5 x6 x7 = some (r, σ1, τ1)) : (∀ c k : Nat, ¬ (c = 218 ∨ c = 224 ∨ (c = 199 ∧ (k = 0 ∨ k = 1 ∨ k = 34 ∨ k = 45 ∨ k = 46))) → σ1 c k = σ c k) ∧ (∀ c k : Nat, c ≠ 200 → τ1 c k = τ c k) := by
  unfold C_X12_soonest_35 at h
  by_cases c_1 : σ 199 3 ≤ x7
  · rw [if_pos c_1] at h
    by_cases c_2 : 0 ≤ x4
    · rw [if_pos c_2] at h
      obtain ⟨σ_3, e_3, h⟩ := nm_some h
      obtain ⟨r_4, σ_4, τ_4, q_4, h⟩ := bd_some h
      have f_4 := fr_B_X12_enters_0 N σ_3 τ x5.toInt64 q_4
      obtain ⟨r_5, σ_5, τ_5, q_5, h⟩ := bd_some h
      have f_5 := fr_B_X12_enters_0 N σ_4 τ_4 x6.toInt64 q_5
      obtain ⟨rfl, rfl, rfl⟩ := sm_inj h
      refine ⟨fun c k hn => ?_, fun c k hn => ?_⟩
      · rw [f_5.1 c k (by omega), f_4.1 c k (by omega), e_3, up2_ne (by omega)]
      · rw [f_5.2 c k hn, f_4.2 c k hn]
    · rw [if_neg c_2] at h
      obtain ⟨rfl, rfl, rfl⟩ := sm_inj h
      refine ⟨fun c k hn => ?_, fun c k hn => ?_⟩
      · rfl
      · rfl
  · rw [if_neg c_1] at h
    have f9 := fr_H_X12_soonest_47 N rec_35 hrec_35 N σ τ x1 x2 x3 x4 x5 x6 x7 0 _ _ _ h
    refine ⟨fun c k hn => (f9.1 c k hn).trans ?_, fun c k hn => (f9.2 c k hn).trans ?_⟩
    · rfl
    · rfl
theorem fr_H_X12_soonest_35 (N : Nat) : ∀ (n : Nat) (σ : gI) (τ : gJ) (x1 : Int32) (x2 : Int32) (x3 : Int32) (x4 : Int32) (x5 : Int32) (x6 : Int32) (x7 : Int32) (r : Int32) (σ1 : gI) (τ1 : gJ), H_X12_soonest_35 N n σ τ x1 x2 x3 x4 x5 x6 x7 = some (r, σ1, τ1) → (∀ c k : Nat, ¬ (c = 218 ∨ c = 224 ∨ (c = 199 ∧ (k = 0 ∨ k = 1 ∨ k = 34 ∨ k = 45 ∨ k = 46))) → σ1 c k = σ c k) ∧ (∀ c k : Nat, c ≠ 200 → τ1 c k = τ c k) := by
  intro n
  induction n with
  | zero => intro σ τ x1 x2 x3 x4 x5 x6 x7 r σ1 τ1 h; cases h
  | succ n ih =>
    intro σ τ x1 x2 x3 x4 x5 x6 x7 r σ1 τ1 h
    exact fr_C_X12_soonest_35 N (H_X12_soonest_35 N n) ih σ τ x1 x2 x3 x4 x5 x6 x7 h
set_option maxHeartbeats 2000000 in
theorem fr_B_X12_soonest_0 (N : Nat) (σ : gI) (τ : gJ) (x1 : Int32) (x2 : Int32) (x3 : Int32) {r : Int32} {σ1 : gI} {τ1 : gJ} (h : B_X12_soonest_0 N σ τ x1 x2 x3 = some (r, σ1, τ1)) : (∀ c k : Nat, ¬ (c = 218 ∨ c = 224 ∨ (c = 199 ∧ (k = 0 ∨ k = 1 ∨ k = 34 ∨ k = 45 ∨ k = 46))) → σ1 c k = σ c k) ∧ (∀ c k : Nat, c ≠ 200 → τ1 c k = τ c k) := by
  unfold B_X12_soonest_0 at h
  obtain ⟨σ_1, e_1, h⟩ := nm_some h
  obtain ⟨r_2, σ_2, τ_2, q_2, h⟩ := bd_some h
  have f_2 := fr_B_X12_canSail_0 N σ_1 τ 0 x1 x2 x3 q_2
  by_cases c_1 : r_2 = 0
  · rw [if_pos c_1] at h
    obtain ⟨rfl, rfl, rfl⟩ := sm_inj h
    refine ⟨fun c k hn => ?_, fun c k hn => ?_⟩
    · rw [f_2.1 c k id, e_1, up2_ne (by omega)]
    · rw [f_2.2 c k]
  · rw [if_neg c_1] at h
    obtain ⟨r_4, σ_4, τ_4, q_4, h⟩ := bd_some h
    have f_4 := fr_B_X12_thinksNow_0 N σ_2 τ_2 q_4
    have f9 := fr_H_X12_soonest_35 N N σ_4 τ_4 x1 x2 x3 (-2) 0 0 0 _ _ _ h
    refine ⟨fun c k hn => (f9.1 c k hn).trans ?_, fun c k hn => (f9.2 c k hn).trans ?_⟩
    · rw [f_4.1 c k (by omega), f_2.1 c k id, e_1, up2_ne (by omega)]
    · rw [f_4.2 c k, f_2.2 c k]
set_option maxHeartbeats 2000000 in
theorem fr_B_X12_steer_0 (N : Nat) (σ : gI) (τ : gJ) (x1 : Int32) (x2 : Int32) {r : Int32} {σ1 : gI} {τ1 : gJ} (h : B_X12_steer_0 N σ τ x1 x2 = some (r, σ1, τ1)) : (∀ c k : Nat, ¬ (c = 207 ∨ c = 218 ∨ (c = 199 ∧ (k = 0 ∨ k = 1 ∨ k = 34))) → σ1 c k = σ c k) ∧ (∀ c k : Nat, c ≠ 200 → τ1 c k = τ c k) := by
  unfold B_X12_steer_0 at h
  obtain ⟨σ_1, e_1, h⟩ := nm_some h
  obtain ⟨r_2, σ_2, τ_2, q_2, h⟩ := bd_some h
  have f_2 := fr_B_X12_isThing_0 N σ_1 τ x1 q_2
  by_cases c_1 : r_2 = 0
  · rw [if_pos c_1] at h
    obtain ⟨rfl, rfl, rfl⟩ := sm_inj h
    refine ⟨fun c k hn => ?_, fun c k hn => ?_⟩
    · rw [f_2.1 c k id, e_1, up2_ne (by omega)]
    · rw [f_2.2 c k]
  · rw [if_neg c_1] at h
    obtain ⟨r_4, σ_4, τ_4, q_4, h⟩ := bd_some h
    have f_4 := fr_B_X12_isKitchen_0 N σ_2 τ_2 x2 q_4
    by_cases c_2 : r_4 = 0
    · rw [if_pos c_2] at h
      obtain ⟨rfl, rfl, rfl⟩ := sm_inj h
      refine ⟨fun c k hn => ?_, fun c k hn => ?_⟩
      · rw [f_4.1 c k id, f_2.1 c k id, e_1, up2_ne (by omega)]
      · rw [f_4.2 c k, f_2.2 c k]
    · rw [if_neg c_2] at h
      obtain ⟨r_6, σ_6, τ_6, q_6, h⟩ := bd_some h
      have f_6 := fr_B_X12_saves_0 N σ_4 τ_4 (1 <<< (x1 &&& 31)) x2 x1 q_6
      obtain ⟨rfl, rfl, rfl⟩ := sm_inj h
      refine ⟨fun c k hn => ?_, fun c k hn => ?_⟩
      · rw [f_6.1 c k (by omega), f_4.1 c k id, f_2.1 c k id, e_1, up2_ne (by omega)]
      · rw [f_6.2 c k hn, f_4.2 c k, f_2.2 c k]
set_option maxHeartbeats 2000000 in
theorem fr_C_X12_undo_26 (N : Nat) (rec_26 : gI → gJ → Int32 → Option (Int32 × gI × gJ)) (hrec_26 : ∀ (σ : gI) (τ : gJ) (x1 : Int32) (r : Int32) (σ1 : gI) (τ1 : gJ), rec_26 σ τ x1 = some (r, σ1, τ1) → (∀ c k : Nat, ¬ (c = 206 ∨ (c = 199 ∧ (k = 0 ∨ k = 36))) → σ1 c k = σ c k) ∧ (∀ c k : Nat, τ1 c k = τ c k)) (σ : gI) (τ : gJ) (x1 : Int32) {r : Int32} {σ1 : gI} {τ1 : gJ} (h : C_X12_undo_26 N rec_26 σ τ x1 = some (r, σ1, τ1)) : (∀ c k : Nat, ¬ (c = 206 ∨ (c = 199 ∧ (k = 0 ∨ k = 36))) → σ1 c k = σ c k) ∧ (∀ c k : Nat, τ1 c k = τ c k) := by
  unfold C_X12_undo_26 at h
  by_cases c_1 : 45 ≤ x1
  · rw [if_pos c_1] at h
    obtain ⟨rfl, rfl, rfl⟩ := sm_inj h
    refine ⟨fun c k hn => ?_, fun c k => ?_⟩
    · rfl
    · rfl
  · rw [if_neg c_1] at h
    obtain ⟨j_2, -, -, h⟩ := ck_some h
    obtain ⟨j_3, -, -, h⟩ := ck_some h
    obtain ⟨σ_4, e_4, h⟩ := nm_some h
    obtain ⟨v_5, e_5, h⟩ := nm_some h
    have f9 := hrec_26 σ_4 τ v_5 _ _ _ h
    refine ⟨fun c k hn => (f9.1 c k hn).trans ?_, fun c k => (f9.2 c k).trans ?_⟩
    · rw [e_4, up2_ne (by omega)]
    · rfl
theorem fr_H_X12_undo_26 (N : Nat) : ∀ (n : Nat) (σ : gI) (τ : gJ) (x1 : Int32) (r : Int32) (σ1 : gI) (τ1 : gJ), H_X12_undo_26 N n σ τ x1 = some (r, σ1, τ1) → (∀ c k : Nat, ¬ (c = 206 ∨ (c = 199 ∧ (k = 0 ∨ k = 36))) → σ1 c k = σ c k) ∧ (∀ c k : Nat, τ1 c k = τ c k) := by
  intro n
  induction n with
  | zero => intro σ τ x1 r σ1 τ1 h; cases h
  | succ n ih =>
    intro σ τ x1 r σ1 τ1 h
    exact fr_C_X12_undo_26 N (H_X12_undo_26 N n) ih σ τ x1 h
set_option maxHeartbeats 2000000 in
theorem fr_B_X12_undo_0 (N : Nat) (σ : gI) (τ : gJ) {r : Int32} {σ1 : gI} {τ1 : gJ} (h : B_X12_undo_0 N σ τ = some (r, σ1, τ1)) : (∀ c k : Nat, ¬ (c = 206 ∨ (c = 199 ∧ (k = 0 ∨ k = 36))) → σ1 c k = σ c k) ∧ (∀ c k : Nat, τ1 c k = τ c k) := by
  unfold B_X12_undo_0 at h
  obtain ⟨σ_1, e_1, h⟩ := nm_some h
  by_cases c_1 : σ_1 199 36 = 0
  · rw [if_pos c_1] at h
    obtain ⟨rfl, rfl, rfl⟩ := sm_inj h
    refine ⟨fun c k hn => ?_, fun c k => ?_⟩
    · rw [e_1, up2_ne (by omega)]
    · rfl
  · rw [if_neg c_1] at h
    obtain ⟨σ_3, e_3, h⟩ := nm_some h
    have f9 := fr_H_X12_undo_26 N N σ_3 τ 0 _ _ _ h
    refine ⟨fun c k hn => (f9.1 c k hn).trans ?_, fun c k => (f9.2 c k).trans ?_⟩
    · rw [e_3, up2_ne (by omega), e_1, up2_ne (by omega)]
    · rfl
set_option maxHeartbeats 2000000 in
theorem fr_B_X12_waits_75 (N : Nat) (rec_35 : gI → gJ → Int32 → Int32 → Int32 → Int32 → Int32 → Int32 → Int32 → Int32 → Option (Int32 × gI × gJ)) (hrec_35 : ∀ (σ : gI) (τ : gJ) (x1 : Int32) (x2 : Int32) (x3 : Int32) (x4 : Int32) (x5 : Int32) (x6 : Int32) (x7 : Int32) (x8 : Int32) (r : Int32) (σ1 : gI) (τ1 : gJ), rec_35 σ τ x1 x2 x3 x4 x5 x6 x7 x8 = some (r, σ1, τ1) → (∀ c k : Nat, ¬ (c = 218 ∨ c = 224 ∨ (c = 199 ∧ (k = 0 ∨ k = 1 ∨ k = 34 ∨ k = 45 ∨ k = 46))) → σ1 c k = σ c k) ∧ (∀ c k : Nat, c ≠ 200 → τ1 c k = τ c k)) (σ : gI) (τ : gJ) (x1 : Int32) (x2 : Int32) (x3 : Int32) (x4 : Int32) (x5 : Int32) (x6 : Int32) (x7 : Int32) (x8 : Int32) (y0 : Int32) {r : Int32} {σ1 : gI} {τ1 : gJ} (h : B_X12_waits_75 N rec_35 σ τ x1 x2 x3 x4 x5 x6 x7 x8 y0 = some (r, σ1, τ1)) : (∀ c k : Nat, ¬ (c = 218 ∨ c = 224 ∨ (c = 199 ∧ (k = 0 ∨ k = 1 ∨ k = 34 ∨ k = 45 ∨ k = 46))) → σ1 c k = σ c k) ∧ (∀ c k : Nat, c ≠ 200 → τ1 c k = τ c k) := by
  unfold B_X12_waits_75 at h
  obtain ⟨v_1, e_1, h⟩ := nm_some h
  by_cases c_1 : x6 < 0
  · rw [if_pos c_1] at h
    by_cases c_2 : x7 < 0
    · rw [if_pos c_2] at h
      obtain ⟨v_4, e_4, h⟩ := nm_some h
      have f9 := hrec_35 σ τ x1 x2 x3 x4 v_1 x8 y0 v_4 _ _ _ h
      refine ⟨fun c k hn => (f9.1 c k hn).trans ?_, fun c k hn => (f9.2 c k hn).trans ?_⟩
      · rfl
      · rfl
    · rw [if_neg c_2] at h
      by_cases c_3 : x7 ≤ y0
      · rw [if_pos c_3] at h
        obtain ⟨v_6, e_6, h⟩ := nm_some h
        have f9 := hrec_35 σ τ x1 x2 x3 x4 v_1 x8 x7 v_6 _ _ _ h
        refine ⟨fun c k hn => (f9.1 c k hn).trans ?_, fun c k hn => (f9.2 c k hn).trans ?_⟩
        · rfl
        · rfl
      · rw [if_neg c_3] at h
        obtain ⟨v_7, e_7, h⟩ := nm_some h
        have f9 := hrec_35 σ τ x1 x2 x3 x4 v_1 x8 y0 v_7 _ _ _ h
        refine ⟨fun c k hn => (f9.1 c k hn).trans ?_, fun c k hn => (f9.2 c k hn).trans ?_⟩
        · rfl
        · rfl
  · rw [if_neg c_1] at h
    by_cases c_4 : x7 ≤ y0
    · rw [if_pos c_4] at h
      by_cases c_5 : x7 < 0
      · rw [if_pos c_5] at h
        obtain ⟨v_10, e_10, h⟩ := nm_some h
        have f9 := hrec_35 σ τ x1 x2 x3 x4 v_1 x6 y0 v_10 _ _ _ h
        refine ⟨fun c k hn => (f9.1 c k hn).trans ?_, fun c k hn => (f9.2 c k hn).trans ?_⟩
        · rfl
        · rfl
      · rw [if_neg c_5] at h
        by_cases c_6 : x7 ≤ y0
        · rw [if_pos c_6] at h
          obtain ⟨v_12, e_12, h⟩ := nm_some h
          have f9 := hrec_35 σ τ x1 x2 x3 x4 v_1 x6 x7 v_12 _ _ _ h
          refine ⟨fun c k hn => (f9.1 c k hn).trans ?_, fun c k hn => (f9.2 c k hn).trans ?_⟩
          · rfl
          · rfl
        · rw [if_neg c_6] at h
          obtain ⟨v_13, e_13, h⟩ := nm_some h
          have f9 := hrec_35 σ τ x1 x2 x3 x4 v_1 x6 y0 v_13 _ _ _ h
          refine ⟨fun c k hn => (f9.1 c k hn).trans ?_, fun c k hn => (f9.2 c k hn).trans ?_⟩
          · rfl
          · rfl
    · rw [if_neg c_4] at h
      by_cases c_7 : x7 < 0
      · rw [if_pos c_7] at h
        obtain ⟨v_15, e_15, h⟩ := nm_some h
        have f9 := hrec_35 σ τ x1 x2 x3 x4 v_1 x8 y0 v_15 _ _ _ h
        refine ⟨fun c k hn => (f9.1 c k hn).trans ?_, fun c k hn => (f9.2 c k hn).trans ?_⟩
        · rfl
        · rfl
      · rw [if_neg c_7] at h
        by_cases c_8 : x7 ≤ y0
        · rw [if_pos c_8] at h
          obtain ⟨v_17, e_17, h⟩ := nm_some h
          have f9 := hrec_35 σ τ x1 x2 x3 x4 v_1 x8 x7 v_17 _ _ _ h
          refine ⟨fun c k hn => (f9.1 c k hn).trans ?_, fun c k hn => (f9.2 c k hn).trans ?_⟩
          · rfl
          · rfl
        · rw [if_neg c_8] at h
          obtain ⟨v_18, e_18, h⟩ := nm_some h
          have f9 := hrec_35 σ τ x1 x2 x3 x4 v_1 x8 y0 v_18 _ _ _ h
          refine ⟨fun c k hn => (f9.1 c k hn).trans ?_, fun c k hn => (f9.2 c k hn).trans ?_⟩
          · rfl
          · rfl
set_option maxHeartbeats 2000000 in
theorem fr_C_X12_waits_35 (N : Nat) (rec_35 : gI → gJ → Int32 → Int32 → Int32 → Int32 → Int32 → Int32 → Int32 → Int32 → Option (Int32 × gI × gJ)) (hrec_35 : ∀ (σ : gI) (τ : gJ) (x1 : Int32) (x2 : Int32) (x3 : Int32) (x4 : Int32) (x5 : Int32) (x6 : Int32) (x7 : Int32) (x8 : Int32) (r : Int32) (σ1 : gI) (τ1 : gJ), rec_35 σ τ x1 x2 x3 x4 x5 x6 x7 x8 = some (r, σ1, τ1) → (∀ c k : Nat, ¬ (c = 218 ∨ c = 224 ∨ (c = 199 ∧ (k = 0 ∨ k = 1 ∨ k = 34 ∨ k = 45 ∨ k = 46))) → σ1 c k = σ c k) ∧ (∀ c k : Nat, c ≠ 200 → τ1 c k = τ c k)) (σ : gI) (τ : gJ) (x1 : Int32) (x2 : Int32) (x3 : Int32) (x4 : Int32) (x5 : Int32) (x6 : Int32) (x7 : Int32) (x8 : Int32) {r : Int32} {σ1 : gI} {τ1 : gJ} (h : C_X12_waits_35 N rec_35 σ τ x1 x2 x3 x4 x5 x6 x7 x8 = some (r, σ1, τ1)) : (∀ c k : Nat, ¬ (c = 218 ∨ c = 224 ∨ (c = 199 ∧ (k = 0 ∨ k = 1 ∨ k = 34 ∨ k = 45 ∨ k = 46))) → σ1 c k = σ c k) ∧ (∀ c k : Nat, c ≠ 200 → τ1 c k = τ c k) := by
  unfold C_X12_waits_35 at h
  by_cases c_1 : 30 ≤ x8
  · rw [if_pos c_1] at h
    obtain ⟨σ_2, e_2, h⟩ := nm_some h
    obtain ⟨r_3, σ_3, τ_3, q_3, h⟩ := bd_some h
    have f_3 := fr_B_X12_enters_0 N σ_2 τ x6.toInt64 q_3
    obtain ⟨r_4, σ_4, τ_4, q_4, h⟩ := bd_some h
    have f_4 := fr_B_X12_enters_0 N σ_3 τ_3 x7.toInt64 q_4
    obtain ⟨rfl, rfl, rfl⟩ := sm_inj h
    refine ⟨fun c k hn => ?_, fun c k hn => ?_⟩
    · rw [f_4.1 c k (by omega), f_3.1 c k (by omega), e_2, up2_ne (by omega)]
    · rw [f_4.2 c k hn, f_3.2 c k hn]
  · rw [if_neg c_1] at h
    obtain ⟨r_5, σ_5, τ_5, q_5, h⟩ := bd_some h
    have f_5 := fr_B_X12_sails_0 N σ τ x1 x2 x3 x8 x4 q_5
    by_cases c_2 : r_5 < 0
    · rw [if_pos c_2] at h
      obtain ⟨v_7, e_7, h⟩ := nm_some h
      have f9 := hrec_35 σ_5 τ_5 x1 x2 x3 x4 x5 x6 x7 v_7 _ _ _ h
      refine ⟨fun c k hn => (f9.1 c k hn).trans ?_, fun c k hn => (f9.2 c k hn).trans ?_⟩
      · rw [f_5.1 c k (by omega)]
      · rw [f_5.2 c k]
    · rw [if_neg c_2] at h
      by_cases c_3 : x1 = x4
      · rw [if_pos c_3] at h
        have f9 := fr_B_X12_waits_75 N rec_35 hrec_35 σ_5 τ_5 x1 x2 x3 x4 x5 x6 x7 x8 0 h
        refine ⟨fun c k hn => (f9.1 c k hn).trans ?_, fun c k hn => (f9.2 c k hn).trans ?_⟩
        · rw [f_5.1 c k (by omega)]
        · rw [f_5.2 c k]
      · rw [if_neg c_3] at h
        have f9 := fr_B_X12_waits_75 N rec_35 hrec_35 σ_5 τ_5 x1 x2 x3 x4 x5 x6 x7 x8 (r_5 - x8) h
        refine ⟨fun c k hn => (f9.1 c k hn).trans ?_, fun c k hn => (f9.2 c k hn).trans ?_⟩
        · rw [f_5.1 c k (by omega)]
        · rw [f_5.2 c k]
theorem fr_H_X12_waits_35 (N : Nat) : ∀ (n : Nat) (σ : gI) (τ : gJ) (x1 : Int32) (x2 : Int32) (x3 : Int32) (x4 : Int32) (x5 : Int32) (x6 : Int32) (x7 : Int32) (x8 : Int32) (r : Int32) (σ1 : gI) (τ1 : gJ), H_X12_waits_35 N n σ τ x1 x2 x3 x4 x5 x6 x7 x8 = some (r, σ1, τ1) → (∀ c k : Nat, ¬ (c = 218 ∨ c = 224 ∨ (c = 199 ∧ (k = 0 ∨ k = 1 ∨ k = 34 ∨ k = 45 ∨ k = 46))) → σ1 c k = σ c k) ∧ (∀ c k : Nat, c ≠ 200 → τ1 c k = τ c k) := by
  intro n
  induction n with
  | zero => intro σ τ x1 x2 x3 x4 x5 x6 x7 x8 r σ1 τ1 h; cases h
  | succ n ih =>
    intro σ τ x1 x2 x3 x4 x5 x6 x7 x8 r σ1 τ1 h
    exact fr_C_X12_waits_35 N (H_X12_waits_35 N n) ih σ τ x1 x2 x3 x4 x5 x6 x7 x8 h
set_option maxHeartbeats 2000000 in
theorem fr_B_X12_waits_0 (N : Nat) (σ : gI) (τ : gJ) (x1 : Int32) (x2 : Int32) (x3 : Int32) (x4 : Int32) {r : Int32} {σ1 : gI} {τ1 : gJ} (h : B_X12_waits_0 N σ τ x1 x2 x3 x4 = some (r, σ1, τ1)) : (∀ c k : Nat, ¬ (c = 218 ∨ c = 224 ∨ (c = 199 ∧ (k = 0 ∨ k = 1 ∨ k = 34 ∨ k = 45 ∨ k = 46))) → σ1 c k = σ c k) ∧ (∀ c k : Nat, c ≠ 200 → τ1 c k = τ c k) := by
  unfold B_X12_waits_0 at h
  obtain ⟨σ_1, e_1, h⟩ := nm_some h
  obtain ⟨r_2, σ_2, τ_2, q_2, h⟩ := bd_some h
  have f_2 := fr_B_X12_canSail_0 N σ_1 τ x1 x2 x3 x4 q_2
  by_cases c_1 : r_2 = 0
  · rw [if_pos c_1] at h
    obtain ⟨rfl, rfl, rfl⟩ := sm_inj h
    refine ⟨fun c k hn => ?_, fun c k hn => ?_⟩
    · rw [f_2.1 c k id, e_1, up2_ne (by omega)]
    · rw [f_2.2 c k]
  · rw [if_neg c_1] at h
    obtain ⟨r_4, σ_4, τ_4, q_4, h⟩ := bd_some h
    have f_4 := fr_B_X12_thinksNow_0 N σ_2 τ_2 q_4
    have f9 := fr_H_X12_waits_35 N N σ_4 τ_4 x1 x2 x3 x4 0 (-1) (-1) 0 _ _ _ h
    refine ⟨fun c k hn => (f9.1 c k hn).trans ?_, fun c k hn => (f9.2 c k hn).trans ?_⟩
    · rw [f_4.1 c k (by omega), f_2.1 c k id, e_1, up2_ne (by omega)]
    · rw [f_4.2 c k, f_2.2 c k]
set_option maxHeartbeats 2000000 in
theorem fr_C_X12_water_64 (N : Nat) (rec_64 : gI → gJ → Int32 → Int32 → Option (Int32 × gI × gJ)) (hrec_64 : ∀ (σ : gI) (τ : gJ) (x2 : Int32) (x4 : Int32) (r : Int32) (σ1 : gI) (τ1 : gJ), rec_64 σ τ x2 x4 = some (r, σ1, τ1) → (∀ c k : Nat, ¬ (c = 205 ∨ c = 215 ∨ (c = 199 ∧ (k = 0 ∨ k = 4 ∨ k = 13 ∨ k = 14 ∨ k = 15 ∨ k = 16))) → σ1 c k = σ c k) ∧ (∀ c k : Nat, τ1 c k = τ c k)) (σ : gI) (τ : gJ) (x2 : Int32) (x4 : Int32) {r : Int32} {σ1 : gI} {τ1 : gJ} (h : C_X12_water_64 N rec_64 σ τ x2 x4 = some (r, σ1, τ1)) : (∀ c k : Nat, ¬ (c = 205 ∨ c = 215 ∨ (c = 199 ∧ (k = 0 ∨ k = 4 ∨ k = 13 ∨ k = 14 ∨ k = 15 ∨ k = 16))) → σ1 c k = σ c k) ∧ (∀ c k : Nat, τ1 c k = τ c k) := by
  unfold C_X12_water_64 at h
  by_cases c_1 : x2 ≤ x4
  · rw [if_pos c_1] at h
    obtain ⟨rfl, rfl, rfl⟩ := sm_inj h
    refine ⟨fun c k hn => ?_, fun c k => ?_⟩
    · rfl
    · rfl
  · rw [if_neg c_1] at h
    obtain ⟨j_2, -, -, h⟩ := ck_some h
    obtain ⟨σ_3, e_3, h⟩ := nm_some h
    obtain ⟨v_4, e_4, h⟩ := nm_some h
    have f9 := hrec_64 σ_3 τ x2 v_4 _ _ _ h
    refine ⟨fun c k hn => (f9.1 c k hn).trans ?_, fun c k => (f9.2 c k).trans ?_⟩
    · rw [e_3, up2_ne (by omega)]
    · rfl
theorem fr_H_X12_water_64 (N : Nat) : ∀ (n : Nat) (σ : gI) (τ : gJ) (x2 : Int32) (x4 : Int32) (r : Int32) (σ1 : gI) (τ1 : gJ), H_X12_water_64 N n σ τ x2 x4 = some (r, σ1, τ1) → (∀ c k : Nat, ¬ (c = 205 ∨ c = 215 ∨ (c = 199 ∧ (k = 0 ∨ k = 4 ∨ k = 13 ∨ k = 14 ∨ k = 15 ∨ k = 16))) → σ1 c k = σ c k) ∧ (∀ c k : Nat, τ1 c k = τ c k) := by
  intro n
  induction n with
  | zero => intro σ τ x2 x4 r σ1 τ1 h; cases h
  | succ n ih =>
    intro σ τ x2 x4 r σ1 τ1 h
    exact fr_C_X12_water_64 N (H_X12_water_64 N n) ih σ τ x2 x4 h
set_option maxHeartbeats 2000000 in
theorem fr_C_X12_water_14 (N : Nat) (rec_14 : gI → gJ → Int32 → Int32 → Option (Int32 × gI × gJ)) (hrec_14 : ∀ (σ : gI) (τ : gJ) (x1 : Int32) (x2 : Int32) (r : Int32) (σ1 : gI) (τ1 : gJ), rec_14 σ τ x1 x2 = some (r, σ1, τ1) → (∀ c k : Nat, ¬ (c = 205 ∨ c = 215 ∨ (c = 199 ∧ (k = 0 ∨ k = 4 ∨ k = 13 ∨ k = 14 ∨ k = 15 ∨ k = 16))) → σ1 c k = σ c k) ∧ (∀ c k : Nat, τ1 c k = τ c k)) (σ : gI) (τ : gJ) (x1 : Int32) (x2 : Int32) {r : Int32} {σ1 : gI} {τ1 : gJ} (h : C_X12_water_14 N rec_14 σ τ x1 x2 = some (r, σ1, τ1)) : (∀ c k : Nat, ¬ (c = 205 ∨ c = 215 ∨ (c = 199 ∧ (k = 0 ∨ k = 4 ∨ k = 13 ∨ k = 14 ∨ k = 15 ∨ k = 16))) → σ1 c k = σ c k) ∧ (∀ c k : Nat, τ1 c k = τ c k) := by
  unfold C_X12_water_14 at h
  obtain ⟨r_1, σ_1, τ_1, q_1, h⟩ := bd_some h
  have f_1 := fr_B_X12_among_0 N sb_14 σ τ q_1
  by_cases c_1 : r_1 < 0
  · rw [if_pos c_1] at h
    obtain ⟨r_3, σ_3, τ_3, q_3, h⟩ := bd_some h
    have f_3 := fr_B_X12_faultOf_0 N σ_1 τ_1 x1 40 1 q_3
    by_cases c_2 : 0 ≤ r_3
    · rw [if_pos c_2] at h
      obtain ⟨σ_5, e_5, h⟩ := nm_some h
      have f9 := fr_H_X12_water_64 N N σ_5 τ_3 x2 0 _ _ _ h
      refine ⟨fun c k hn => (f9.1 c k hn).trans ?_, fun c k => (f9.2 c k).trans ?_⟩
      · rw [e_5, up2_ne (by omega), f_3.1 c k id, f_1.1 c k id]
      · rw [f_3.2 c k, f_1.2 c k]
    · rw [if_neg c_2] at h
      obtain ⟨rfl, rfl, rfl⟩ := sm_inj h
      refine ⟨fun c k hn => ?_, fun c k => ?_⟩
      · rw [f_3.1 c k id, f_1.1 c k id]
      · rw [f_3.2 c k, f_1.2 c k]
  · rw [if_neg c_1] at h
    obtain ⟨r_6, σ_6, τ_6, q_6, h⟩ := bd_some h
    have f_6 := fr_B_X12_takesOf_0 N sb_14 σ_1 τ_1 q_6
    obtain ⟨j_7, -, -, h⟩ := ck_some h
    obtain ⟨σ_8, e_8, h⟩ := nm_some h
    obtain ⟨v_9, e_9, h⟩ := nm_some h
    have f9 := hrec_14 σ_8 τ_6 x1 v_9 _ _ _ h
    refine ⟨fun c k hn => (f9.1 c k hn).trans ?_, fun c k => (f9.2 c k).trans ?_⟩
    · rw [e_8, up2_ne (by omega), f_6.1 c k (by omega), f_1.1 c k id]
    · rw [f_6.2 c k, f_1.2 c k]
theorem fr_H_X12_water_14 (N : Nat) : ∀ (n : Nat) (σ : gI) (τ : gJ) (x1 : Int32) (x2 : Int32) (r : Int32) (σ1 : gI) (τ1 : gJ), H_X12_water_14 N n σ τ x1 x2 = some (r, σ1, τ1) → (∀ c k : Nat, ¬ (c = 205 ∨ c = 215 ∨ (c = 199 ∧ (k = 0 ∨ k = 4 ∨ k = 13 ∨ k = 14 ∨ k = 15 ∨ k = 16))) → σ1 c k = σ c k) ∧ (∀ c k : Nat, τ1 c k = τ c k) := by
  intro n
  induction n with
  | zero => intro σ τ x1 x2 r σ1 τ1 h; cases h
  | succ n ih =>
    intro σ τ x1 x2 r σ1 τ1 h
    exact fr_C_X12_water_14 N (H_X12_water_14 N n) ih σ τ x1 x2 h
set_option maxHeartbeats 2000000 in
theorem fr_B_X12_water_0 (N : Nat) (σ : gI) (τ : gJ) {r : Int32} {σ1 : gI} {τ1 : gJ} (h : B_X12_water_0 N σ τ = some (r, σ1, τ1)) : (∀ c k : Nat, ¬ (c = 205 ∨ c = 215 ∨ (c = 199 ∧ (k = 0 ∨ k = 4 ∨ k = 13 ∨ k = 14 ∨ k = 15 ∨ k = 16))) → σ1 c k = σ c k) ∧ (∀ c k : Nat, τ1 c k = τ c k) := by
  unfold B_X12_water_0 at h
  obtain ⟨σ_1, e_1, h⟩ := nm_some h
  obtain ⟨r_2, σ_2, τ_2, q_2, h⟩ := bd_some h
  have f_2 := fr_B_X12_begins_0 N σ_1 τ 40 q_2
  have f9 := fr_H_X12_water_14 N N σ_2 τ_2 r_2 0 _ _ _ h
  refine ⟨fun c k hn => (f9.1 c k hn).trans ?_, fun c k => (f9.2 c k).trans ?_⟩
  · rw [f_2.1 c k (by omega), e_1, up2_ne (by omega)]
  · rw [f_2.2 c k]
set_option maxHeartbeats 2000000 in
theorem fr_C_X12_ways_41 (N : Nat) (rec_41 : gI → gJ → Int32 → Int32 → Int32 → Int32 → Int32 → Int32 → Int32 → Int32 → Int32 → Option (Int32 × gI × gJ)) (hrec_41 : ∀ (σ : gI) (τ : gJ) (x1 : Int32) (x2 : Int32) (x3 : Int32) (x4 : Int32) (x5 : Int32) (x6 : Int32) (x7 : Int32) (x8 : Int32) (x9 : Int32) (r : Int32) (σ1 : gI) (τ1 : gJ), rec_41 σ τ x1 x2 x3 x4 x5 x6 x7 x8 x9 = some (r, σ1, τ1) → (∀ c k : Nat, ¬ (c = 218 ∨ c = 224 ∨ (c = 199 ∧ (k = 0 ∨ k = 1 ∨ k = 34 ∨ k = 45 ∨ k = 46))) → σ1 c k = σ c k) ∧ (∀ c k : Nat, c ≠ 200 → τ1 c k = τ c k)) (σ : gI) (τ : gJ) (x1 : Int32) (x2 : Int32) (x3 : Int32) (x4 : Int32) (x5 : Int32) (x6 : Int32) (x7 : Int32) (x8 : Int32) (x9 : Int32) {r : Int32} {σ1 : gI} {τ1 : gJ} (h : C_X12_ways_41 N rec_41 σ τ x1 x2 x3 x4 x5 x6 x7 x8 x9 = some (r, σ1, τ1)) : (∀ c k : Nat, ¬ (c = 218 ∨ c = 224 ∨ (c = 199 ∧ (k = 0 ∨ k = 1 ∨ k = 34 ∨ k = 45 ∨ k = 46))) → σ1 c k = σ c k) ∧ (∀ c k : Nat, c ≠ 200 → τ1 c k = τ c k) := by
  unfold C_X12_ways_41 at h
  by_cases c_1 : x5 < x9
  · rw [if_pos c_1] at h
    obtain ⟨σ_2, e_2, h⟩ := nm_some h
    obtain ⟨r_3, σ_3, τ_3, q_3, h⟩ := bd_some h
    have f_3 := fr_B_X12_enters_0 N σ_2 τ x7.toInt64 q_3
    obtain ⟨r_4, σ_4, τ_4, q_4, h⟩ := bd_some h
    have f_4 := fr_B_X12_enters_0 N σ_3 τ_3 x8.toInt64 q_4
    obtain ⟨rfl, rfl, rfl⟩ := sm_inj h
    refine ⟨fun c k hn => ?_, fun c k hn => ?_⟩
    · rw [f_4.1 c k (by omega), f_3.1 c k (by omega), e_2, up2_ne (by omega)]
    · rw [f_4.2 c k hn, f_3.2 c k hn]
  · rw [if_neg c_1] at h
    by_cases c_2 : x9 &&& (x5 ^^^ (-1)) = 0
    · rw [if_pos c_2] at h
      obtain ⟨σ_7, e_7, h⟩ := nm_some h
      obtain ⟨r_8, σ_8, τ_8, q_8, h⟩ := bd_some h
      have f_8 := fr_B_X12_sails_0 N σ_7 τ x1 x2 x3 0 x4 q_8
      by_cases c_3 : r_8 < 0
      · rw [if_pos c_3] at h
        obtain ⟨v_10, e_10, h⟩ := nm_some h
        have f9 := hrec_41 σ_8 τ_8 x1 x2 x3 x4 x5 x6 x7 x8 v_10 _ _ _ h
        refine ⟨fun c k hn => (f9.1 c k hn).trans ?_, fun c k hn => (f9.2 c k hn).trans ?_⟩
        · rw [f_8.1 c k (by omega), e_7, up2_ne (by omega)]
        · rw [f_8.2 c k]
      · rw [if_neg c_3] at h
        by_cases c_4 : 0 ≤ x7
        · rw [if_pos c_4] at h
          obtain ⟨v_12, e_12, h⟩ := nm_some h
          obtain ⟨v_13, e_13, h⟩ := nm_some h
          have f9 := hrec_41 σ_8 τ_8 x1 x2 x3 x4 x5 v_12 x7 x9 v_13 _ _ _ h
          refine ⟨fun c k hn => (f9.1 c k hn).trans ?_, fun c k hn => (f9.2 c k hn).trans ?_⟩
          · rw [f_8.1 c k (by omega), e_7, up2_ne (by omega)]
          · rw [f_8.2 c k]
        · rw [if_neg c_4] at h
          obtain ⟨v_14, e_14, h⟩ := nm_some h
          obtain ⟨v_15, e_15, h⟩ := nm_some h
          have f9 := hrec_41 σ_8 τ_8 x1 x2 x3 x4 x5 v_14 x9 x9 v_15 _ _ _ h
          refine ⟨fun c k hn => (f9.1 c k hn).trans ?_, fun c k hn => (f9.2 c k hn).trans ?_⟩
          · rw [f_8.1 c k (by omega), e_7, up2_ne (by omega)]
          · rw [f_8.2 c k]
    · rw [if_neg c_2] at h
      obtain ⟨v_6, e_6, h⟩ := nm_some h
      have f9 := hrec_41 σ τ x1 x2 x3 x4 x5 x6 x7 x8 v_6 _ _ _ h
      refine ⟨fun c k hn => (f9.1 c k hn).trans ?_, fun c k hn => (f9.2 c k hn).trans ?_⟩
      · rfl
      · rfl
theorem fr_H_X12_ways_41 (N : Nat) : ∀ (n : Nat) (σ : gI) (τ : gJ) (x1 : Int32) (x2 : Int32) (x3 : Int32) (x4 : Int32) (x5 : Int32) (x6 : Int32) (x7 : Int32) (x8 : Int32) (x9 : Int32) (r : Int32) (σ1 : gI) (τ1 : gJ), H_X12_ways_41 N n σ τ x1 x2 x3 x4 x5 x6 x7 x8 x9 = some (r, σ1, τ1) → (∀ c k : Nat, ¬ (c = 218 ∨ c = 224 ∨ (c = 199 ∧ (k = 0 ∨ k = 1 ∨ k = 34 ∨ k = 45 ∨ k = 46))) → σ1 c k = σ c k) ∧ (∀ c k : Nat, c ≠ 200 → τ1 c k = τ c k) := by
  intro n
  induction n with
  | zero => intro σ τ x1 x2 x3 x4 x5 x6 x7 x8 x9 r σ1 τ1 h; cases h
  | succ n ih =>
    intro σ τ x1 x2 x3 x4 x5 x6 x7 x8 x9 r σ1 τ1 h
    exact fr_C_X12_ways_41 N (H_X12_ways_41 N n) ih σ τ x1 x2 x3 x4 x5 x6 x7 x8 x9 h
set_option maxHeartbeats 2000000 in
theorem fr_B_X12_ways_0 (N : Nat) (σ : gI) (τ : gJ) (x1 : Int32) (x2 : Int32) (x3 : Int32) (x4 : Int32) {r : Int32} {σ1 : gI} {τ1 : gJ} (h : B_X12_ways_0 N σ τ x1 x2 x3 x4 = some (r, σ1, τ1)) : (∀ c k : Nat, ¬ (c = 218 ∨ c = 224 ∨ (c = 199 ∧ (k = 0 ∨ k = 1 ∨ k = 34 ∨ k = 45 ∨ k = 46))) → σ1 c k = σ c k) ∧ (∀ c k : Nat, c ≠ 200 → τ1 c k = τ c k) := by
  unfold B_X12_ways_0 at h
  obtain ⟨σ_1, e_1, h⟩ := nm_some h
  obtain ⟨r_2, σ_2, τ_2, q_2, h⟩ := bd_some h
  have f_2 := fr_B_X12_canSail_0 N σ_1 τ x1 x2 x3 x4 q_2
  by_cases c_1 : r_2 = 0
  · rw [if_pos c_1] at h
    obtain ⟨rfl, rfl, rfl⟩ := sm_inj h
    refine ⟨fun c k hn => ?_, fun c k hn => ?_⟩
    · rw [f_2.1 c k id, e_1, up2_ne (by omega)]
    · rw [f_2.2 c k]
  · rw [if_neg c_1] at h
    obtain ⟨r_4, σ_4, τ_4, q_4, h⟩ := bd_some h
    have f_4 := fr_B_X12_thinksNow_0 N σ_2 τ_2 q_4
    obtain ⟨r_5, σ_5, τ_5, q_5, h⟩ := bd_some h
    have f_5 := fr_B_X12_forks_0 N σ_4 τ_4 q_5
    have f9 := fr_H_X12_ways_41 N N σ_5 τ_5 x1 x2 x3 x4 r_5 0 (-1) (-1) 0 _ _ _ h
    refine ⟨fun c k hn => (f9.1 c k hn).trans ?_, fun c k hn => (f9.2 c k hn).trans ?_⟩
    · rw [f_5.1 c k id, f_4.1 c k (by omega), f_2.1 c k id, e_1, up2_ne (by omega)]
    · rw [f_5.2 c k, f_4.2 c k, f_2.2 c k]
set_option maxHeartbeats 2000000 in
theorem fr_B_X12_where_0 (N : Nat) (σ : gI) (τ : gJ) (x1 : Int32) (x2 : Int32) {r : Int32} {σ1 : gI} {τ1 : gJ} (h : B_X12_where_0 N σ τ x1 x2 = some (r, σ1, τ1)) : (∀ c k : Nat, ¬ (c = 207 ∨ c = 218 ∨ (c = 199 ∧ (k = 0 ∨ k = 1 ∨ k = 34))) → σ1 c k = σ c k) ∧ (∀ c k : Nat, c ≠ 200 → τ1 c k = τ c k) := by
  unfold B_X12_where_0 at h
  obtain ⟨σ_1, e_1, h⟩ := nm_some h
  obtain ⟨r_2, σ_2, τ_2, q_2, h⟩ := bd_some h
  have f_2 := fr_B_X12_isThing_0 N σ_1 τ x1 q_2
  by_cases c_1 : r_2 = 0
  · rw [if_pos c_1] at h
    obtain ⟨rfl, rfl, rfl⟩ := sm_inj h
    refine ⟨fun c k hn => ?_, fun c k hn => ?_⟩
    · rw [f_2.1 c k id, e_1, up2_ne (by omega)]
    · rw [f_2.2 c k]
  · rw [if_neg c_1] at h
    obtain ⟨r_4, σ_4, τ_4, q_4, h⟩ := bd_some h
    have f_4 := fr_B_X12_in_0 N σ_2 τ_2 x2.toInt64 0 300 q_4
    by_cases c_2 : r_4 = 0
    · rw [if_pos c_2] at h
      obtain ⟨rfl, rfl, rfl⟩ := sm_inj h
      refine ⟨fun c k hn => ?_, fun c k hn => ?_⟩
      · rw [f_4.1 c k id, f_2.1 c k id, e_1, up2_ne (by omega)]
      · rw [f_4.2 c k, f_2.2 c k]
    · rw [if_neg c_2] at h
      obtain ⟨r_6, σ_6, τ_6, q_6, h⟩ := bd_some h
      have f_6 := fr_B_X12_goesOn_0 N σ_4 τ_4 x2 q_6
      obtain ⟨σ_7, e_7, h⟩ := nm_some h
      obtain ⟨j_8, -, -, h⟩ := ck_some h
      obtain ⟨r_9, σ_9, τ_9, q_9, h⟩ := bd_some h
      have f_9 := fr_B_X12_enters_0 N σ_7 τ_6 ((σ_7 207 j_8).toInt64) q_9
      obtain ⟨j_10, -, -, h⟩ := ck_some h
      obtain ⟨r_11, σ_11, τ_11, q_11, h⟩ := bd_some h
      have f_11 := fr_B_X12_enters_0 N σ_9 τ_9 ((σ_9 207 j_10).toInt64) q_11
      obtain ⟨j_12, -, -, h⟩ := ck_some h
      obtain ⟨r_13, σ_13, τ_13, q_13, h⟩ := bd_some h
      have f_13 := fr_B_X12_enters_0 N σ_11 τ_11 ((σ_11 207 j_12).toInt64) q_13
      obtain ⟨j_14, -, -, h⟩ := ck_some h
      obtain ⟨rfl, rfl, rfl⟩ := sm_inj h
      refine ⟨fun c k hn => ?_, fun c k hn => ?_⟩
      · rw [f_13.1 c k (by omega), f_11.1 c k (by omega), f_9.1 c k (by omega), e_7, up2_ne (by omega), f_6.1 c k (by omega), f_4.1 c k id, f_2.1 c k id, e_1, up2_ne (by omega)]
      · rw [f_13.2 c k hn, f_11.2 c k hn, f_9.2 c k hn, f_6.2 c k, f_4.2 c k, f_2.2 c k]
