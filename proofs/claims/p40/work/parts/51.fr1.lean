set_option maxHeartbeats 2000000 in
theorem fr_B_X12_isDigit_0 (N : Nat) (σ : gI) (τ : gJ) {r : Int32} {σ1 : gI} {τ1 : gJ} (h : B_X12_isDigit_0 N σ τ = some (r, σ1, τ1)) : (∀ c k : Nat, ¬ (False) → σ1 c k = σ c k) ∧ (∀ c k : Nat, τ1 c k = τ c k) := by
  unfold B_X12_isDigit_0 at h
  by_cases c_1 : σ 199 15 ≤ σ 199 14
  · rw [if_pos c_1] at h
    obtain ⟨rfl, rfl, rfl⟩ := sm_inj h
    refine ⟨fun c k hn => ?_, fun c k => ?_⟩
    · rfl
    · rfl
  · rw [if_neg c_1] at h
    obtain ⟨j_2, -, -, h⟩ := ck_some h
    obtain ⟨r_3, σ_3, τ_3, q_3, h⟩ := bd_some h
    have f_3 := fr_B_X12_in_0 N σ τ ((σ 208 j_2).toInt64) 48 57 q_3
    by_cases c_2 : r_3 = 0
    · rw [if_pos c_2] at h
      obtain ⟨rfl, rfl, rfl⟩ := sm_inj h
      refine ⟨fun c k hn => ?_, fun c k => ?_⟩
      · rw [f_3.1 c k id]
      · rw [f_3.2 c k]
    · rw [if_neg c_2] at h
      obtain ⟨rfl, rfl, rfl⟩ := sm_inj h
      refine ⟨fun c k hn => ?_, fun c k => ?_⟩
      · rw [f_3.1 c k id]
      · rw [f_3.2 c k]
set_option maxHeartbeats 2000000 in
theorem fr_C_X12_numberOf_13 (N : Nat) (rec_13 : gI → gJ → Int32 → Int32 → Int32 → Option (Int32 × gI × gJ)) (hrec_13 : ∀ (σ : gI) (τ : gJ) (x1 : Int32) (x2 : Int32) (x3 : Int32) (r : Int32) (σ1 : gI) (τ1 : gJ), rec_13 σ τ x1 x2 x3 = some (r, σ1, τ1) → (∀ c k : Nat, ¬ ((c = 199 ∧ (k = 14))) → σ1 c k = σ c k) ∧ (∀ c k : Nat, τ1 c k = τ c k)) (σ : gI) (τ : gJ) (x1 : Int32) (x2 : Int32) (x3 : Int32) {r : Int32} {σ1 : gI} {τ1 : gJ} (h : C_X12_numberOf_13 N rec_13 σ τ x1 x2 x3 = some (r, σ1, τ1)) : (∀ c k : Nat, ¬ ((c = 199 ∧ (k = 14))) → σ1 c k = σ c k) ∧ (∀ c k : Nat, τ1 c k = τ c k) := by
  unfold C_X12_numberOf_13 at h
  by_cases c_1 : x1 ≤ x3
  · rw [if_pos c_1] at h
    obtain ⟨rfl, rfl, rfl⟩ := sm_inj h
    refine ⟨fun c k hn => ?_, fun c k => ?_⟩
    · rfl
    · rfl
  · rw [if_neg c_1] at h
    obtain ⟨r_2, σ_2, τ_2, q_2, h⟩ := bd_some h
    have f_2 := fr_B_X12_isDigit_0 N σ τ q_2
    by_cases c_2 : r_2 = 0
    · rw [if_pos c_2] at h
      obtain ⟨rfl, rfl, rfl⟩ := sm_inj h
      refine ⟨fun c k hn => ?_, fun c k => ?_⟩
      · rw [f_2.1 c k id]
      · rw [f_2.2 c k]
    · rw [if_neg c_2] at h
      obtain ⟨j_4, -, -, h⟩ := ck_some h
      obtain ⟨v_5, e_5, h⟩ := nm_some h
      obtain ⟨σ_6, e_6, h⟩ := nm_some h
      obtain ⟨v_7, e_7, h⟩ := nm_some h
      have f9 := hrec_13 σ_6 τ_2 x1 v_5 v_7 _ _ _ h
      refine ⟨fun c k hn => (f9.1 c k hn).trans ?_, fun c k => (f9.2 c k).trans ?_⟩
      · rw [e_6, up2_ne (by omega), f_2.1 c k id]
      · rw [f_2.2 c k]
theorem fr_H_X12_numberOf_13 (N : Nat) : ∀ (n : Nat) (σ : gI) (τ : gJ) (x1 : Int32) (x2 : Int32) (x3 : Int32) (r : Int32) (σ1 : gI) (τ1 : gJ), H_X12_numberOf_13 N n σ τ x1 x2 x3 = some (r, σ1, τ1) → (∀ c k : Nat, ¬ ((c = 199 ∧ (k = 14))) → σ1 c k = σ c k) ∧ (∀ c k : Nat, τ1 c k = τ c k) := by
  intro n
  induction n with
  | zero => intro σ τ x1 x2 x3 r σ1 τ1 h; cases h
  | succ n ih =>
    intro σ τ x1 x2 x3 r σ1 τ1 h
    exact fr_C_X12_numberOf_13 N (H_X12_numberOf_13 N n) ih σ τ x1 x2 x3 h
set_option maxHeartbeats 2000000 in
theorem fr_B_X12_numberOf_0 (N : Nat) (σ : gI) (τ : gJ) (x1 : Int32) {r : Int32} {σ1 : gI} {τ1 : gJ} (h : B_X12_numberOf_0 N σ τ x1 = some (r, σ1, τ1)) : (∀ c k : Nat, ¬ ((c = 199 ∧ (k = 14))) → σ1 c k = σ c k) ∧ (∀ c k : Nat, τ1 c k = τ c k) := by
  unfold B_X12_numberOf_0 at h
  obtain ⟨r_1, σ_1, τ_1, q_1, h⟩ := bd_some h
  have f_1 := fr_B_X12_isDigit_0 N σ τ q_1
  by_cases c_1 : r_1 = 0
  · rw [if_pos c_1] at h
    obtain ⟨rfl, rfl, rfl⟩ := sm_inj h
    refine ⟨fun c k hn => ?_, fun c k => ?_⟩
    · rw [f_1.1 c k id]
    · rw [f_1.2 c k]
  · rw [if_neg c_1] at h
    have f9 := fr_H_X12_numberOf_13 N N σ_1 τ_1 x1 0 0 _ _ _ h
    refine ⟨fun c k hn => (f9.1 c k hn).trans ?_, fun c k => (f9.2 c k).trans ?_⟩
    · rw [f_1.1 c k id]
    · rw [f_1.2 c k]
set_option maxHeartbeats 2000000 in
theorem fr_B_X12_takes_29 (N : Nat) (σ : gI) (τ : gJ) (y0 : Int32) {r : Int32} {σ1 : gI} {τ1 : gJ} (h : B_X12_takes_29 N σ τ y0 = some (r, σ1, τ1)) : (∀ c k : Nat, ¬ ((c = 199 ∧ (k = 14))) → σ1 c k = σ c k) ∧ (∀ c k : Nat, τ1 c k = τ c k) := by
  unfold B_X12_takes_29 at h
  obtain ⟨r_1, σ_1, τ_1, q_1, h⟩ := bd_some h
  have f_1 := fr_B_X12_flag_0 N σ τ y0 q_1
  obtain ⟨σ_2, e_2, h⟩ := nm_some h
  obtain ⟨-, h⟩ := cb_some h
  obtain ⟨rfl, rfl, rfl⟩ := sm_inj h
  refine ⟨fun c k hn => ?_, fun c k => ?_⟩
  · rw [e_2, up2_ne (by omega), f_1.1 c k id]
  · rw [f_1.2 c k]
set_option maxHeartbeats 2000000 in
theorem fr_B_X12_takes_0 (N : Nat) (σ : gI) (τ : gJ) (x1 : Int32) {r : Int32} {σ1 : gI} {τ1 : gJ} (h : B_X12_takes_0 N σ τ x1 = some (r, σ1, τ1)) : (∀ c k : Nat, ¬ ((c = 199 ∧ (k = 14))) → σ1 c k = σ c k) ∧ (∀ c k : Nat, τ1 c k = τ c k) := by
  unfold B_X12_takes_0 at h
  by_cases c_1 : σ 199 15 ≤ σ 199 14
  · rw [if_pos c_1] at h
    have f9 := fr_B_X12_takes_29 N σ τ 0 h
    refine ⟨fun c k hn => (f9.1 c k hn).trans ?_, fun c k => (f9.2 c k).trans ?_⟩
    · rfl
    · rfl
  · rw [if_neg c_1] at h
    obtain ⟨j_2, -, -, h⟩ := ck_some h
    by_cases c_2 : σ 208 j_2 = x1
    · rw [if_pos c_2] at h
      have f9 := fr_B_X12_takes_29 N σ τ 1 h
      refine ⟨fun c k hn => (f9.1 c k hn).trans ?_, fun c k => (f9.2 c k).trans ?_⟩
      · rfl
      · rfl
    · rw [if_neg c_2] at h
      have f9 := fr_B_X12_takes_29 N σ τ 0 h
      refine ⟨fun c k hn => (f9.1 c k hn).trans ?_, fun c k => (f9.2 c k).trans ?_⟩
      · rfl
      · rfl
set_option maxHeartbeats 2000000 in
theorem fr_B_X12_readsAct_82 (N : Nat) (σ : gI) (τ : gJ) (x1 : Int32) (y0 : Int32) (y1 : Int32) {r : Int32} {σ1 : gI} {τ1 : gJ} (h : B_X12_readsAct_82 N σ τ x1 y0 y1 = some (r, σ1, τ1)) : (∀ c k : Nat, ¬ (c = 220 ∨ c = 221 ∨ c = 222 ∨ c = 223 ∨ (c = 199 ∧ (k = 14 ∨ k = 42))) → σ1 c k = σ c k) ∧ (∀ c k : Nat, τ1 c k = τ c k) := by
  unfold B_X12_readsAct_82 at h
  obtain ⟨j_1, -, -, h⟩ := ck_some h
  obtain ⟨σ_2, e_2, h⟩ := nm_some h
  obtain ⟨j_3, -, -, h⟩ := ck_some h
  by_cases c_1 : σ_2 221 j_3 < 0
  · rw [if_pos c_1] at h
    by_cases c_2 : σ_2 221 j_3 < 0
    · rw [if_pos c_2] at h
      obtain ⟨rfl, rfl, rfl⟩ := sm_inj h
      refine ⟨fun c k hn => ?_, fun c k => ?_⟩
      · rw [e_2, up2_ne (by omega)]
      · rfl
    · rw [if_neg c_2] at h
      obtain ⟨rfl, rfl, rfl⟩ := sm_inj h
      refine ⟨fun c k hn => ?_, fun c k => ?_⟩
      · rw [e_2, up2_ne (by omega)]
      · rfl
  · rw [if_neg c_1] at h
    by_cases c_3 : σ_2 220 j_3 = 1
    · rw [if_pos c_3] at h
      by_cases c_4 : σ_2 221 j_3 < 0
      · rw [if_pos c_4] at h
        obtain ⟨rfl, rfl, rfl⟩ := sm_inj h
        refine ⟨fun c k hn => ?_, fun c k => ?_⟩
        · rw [e_2, up2_ne (by omega)]
        · rfl
      · rw [if_neg c_4] at h
        obtain ⟨rfl, rfl, rfl⟩ := sm_inj h
        refine ⟨fun c k hn => ?_, fun c k => ?_⟩
        · rw [e_2, up2_ne (by omega)]
        · rfl
    · rw [if_neg c_3] at h
      by_cases c_5 : σ_2 220 j_3 = 2
      · rw [if_pos c_5] at h
        by_cases c_6 : σ_2 221 j_3 < 0
        · rw [if_pos c_6] at h
          obtain ⟨rfl, rfl, rfl⟩ := sm_inj h
          refine ⟨fun c k hn => ?_, fun c k => ?_⟩
          · rw [e_2, up2_ne (by omega)]
          · rfl
        · rw [if_neg c_6] at h
          obtain ⟨rfl, rfl, rfl⟩ := sm_inj h
          refine ⟨fun c k hn => ?_, fun c k => ?_⟩
          · rw [e_2, up2_ne (by omega)]
          · rfl
      · rw [if_neg c_5] at h
        by_cases c_7 : σ_2 220 j_3 = 3
        · rw [if_pos c_7] at h
          obtain ⟨r_20, σ_20, τ_20, q_20, h⟩ := bd_some h
          have f_20 := fr_B_X12_takesOf_0 N sb_20 σ_2 τ q_20
          obtain ⟨σ_21, e_21, h⟩ := nm_some h
          by_cases c_8 : σ_21 222 j_3 ≤ 0
          · rw [if_pos c_8] at h
            obtain ⟨rfl, rfl, rfl⟩ := sm_inj h
            refine ⟨fun c k hn => ?_, fun c k => ?_⟩
            · rw [e_21, up2_ne (by omega), f_20.1 c k (by omega), e_2, up2_ne (by omega)]
            · rw [f_20.2 c k]
          · rw [if_neg c_8] at h
            obtain ⟨rfl, rfl, rfl⟩ := sm_inj h
            refine ⟨fun c k hn => ?_, fun c k => ?_⟩
            · rw [e_21, up2_ne (by omega), f_20.1 c k (by omega), e_2, up2_ne (by omega)]
            · rw [f_20.2 c k]
        · rw [if_neg c_7] at h
          obtain ⟨r_10, σ_10, τ_10, q_10, h⟩ := bd_some h
          have f_10 := fr_B_X12_numberOf_0 N σ_2 τ 2 q_10
          obtain ⟨σ_11, e_11, h⟩ := nm_some h
          by_cases c_9 : 0 ≤ σ_11 222 j_3
          · rw [if_pos c_9] at h
            obtain ⟨r_13, σ_13, τ_13, q_13, h⟩ := bd_some h
            have f_13 := fr_B_X12_takes_0 N σ_11 τ_10 43 q_13
            by_cases c_10 : r_13 = 0
            · rw [if_pos c_10] at h
              obtain ⟨σ_15, e_15, h⟩ := nm_some h
              by_cases c_11 : σ_15 223 j_3 < 0
              · rw [if_pos c_11] at h
                obtain ⟨rfl, rfl, rfl⟩ := sm_inj h
                refine ⟨fun c k hn => ?_, fun c k => ?_⟩
                · rw [e_15, up2_ne (by omega), f_13.1 c k (by omega), e_11, up2_ne (by omega), f_10.1 c k (by omega), e_2, up2_ne (by omega)]
                · rw [f_13.2 c k, f_10.2 c k]
              · rw [if_neg c_11] at h
                obtain ⟨rfl, rfl, rfl⟩ := sm_inj h
                refine ⟨fun c k hn => ?_, fun c k => ?_⟩
                · rw [e_15, up2_ne (by omega), f_13.1 c k (by omega), e_11, up2_ne (by omega), f_10.1 c k (by omega), e_2, up2_ne (by omega)]
                · rw [f_13.2 c k, f_10.2 c k]
            · rw [if_neg c_10] at h
              obtain ⟨r_17, σ_17, τ_17, q_17, h⟩ := bd_some h
              have f_17 := fr_B_X12_numberOf_0 N σ_13 τ_13 1 q_17
              obtain ⟨σ_18, e_18, h⟩ := nm_some h
              by_cases c_12 : σ_18 223 j_3 < 0
              · rw [if_pos c_12] at h
                obtain ⟨rfl, rfl, rfl⟩ := sm_inj h
                refine ⟨fun c k hn => ?_, fun c k => ?_⟩
                · rw [e_18, up2_ne (by omega), f_17.1 c k (by omega), f_13.1 c k (by omega), e_11, up2_ne (by omega), f_10.1 c k (by omega), e_2, up2_ne (by omega)]
                · rw [f_17.2 c k, f_13.2 c k, f_10.2 c k]
              · rw [if_neg c_12] at h
                obtain ⟨rfl, rfl, rfl⟩ := sm_inj h
                refine ⟨fun c k hn => ?_, fun c k => ?_⟩
                · rw [e_18, up2_ne (by omega), f_17.1 c k (by omega), f_13.1 c k (by omega), e_11, up2_ne (by omega), f_10.1 c k (by omega), e_2, up2_ne (by omega)]
                · rw [f_17.2 c k, f_13.2 c k, f_10.2 c k]
          · rw [if_neg c_9] at h
            obtain ⟨rfl, rfl, rfl⟩ := sm_inj h
            refine ⟨fun c k hn => ?_, fun c k => ?_⟩
            · rw [e_11, up2_ne (by omega), f_10.1 c k (by omega), e_2, up2_ne (by omega)]
            · rw [f_10.2 c k]
set_option maxHeartbeats 2000000 in
theorem fr_B_X12_readsAct_0 (N : Nat) (σ : gI) (τ : gJ) {r : Int32} {σ1 : gI} {τ1 : gJ} (h : B_X12_readsAct_0 N σ τ = some (r, σ1, τ1)) : (∀ c k : Nat, ¬ (c = 220 ∨ c = 221 ∨ c = 222 ∨ c = 223 ∨ (c = 199 ∧ (k = 14 ∨ k = 42))) → σ1 c k = σ c k) ∧ (∀ c k : Nat, τ1 c k = τ c k) := by
  unfold B_X12_readsAct_0 at h
  obtain ⟨v_1, e_1, h⟩ := nm_some h
  obtain ⟨r_2, σ_2, τ_2, q_2, h⟩ := bd_some h
  have f_2 := fr_B_X12_takesOf_0 N sb_19 σ τ q_2
  obtain ⟨j_3, -, -, h⟩ := ck_some h
  obtain ⟨σ_4, e_4, h⟩ := nm_some h
  obtain ⟨σ_5, e_5, h⟩ := nm_some h
  by_cases c_1 : 0 ≤ σ_5 220 j_3
  · rw [if_pos c_1] at h
    by_cases c_2 : 2 ≤ σ_5 220 j_3
    · rw [if_pos c_2] at h
      by_cases c_3 : σ_5 220 j_3 = 2
      · rw [if_pos c_3] at h
        obtain ⟨r_10, σ_10, τ_10, q_10, h⟩ := bd_some h
        have f_10 := fr_B_X12_numberOf_0 N σ_5 τ_2 2 q_10
        have f9 := fr_B_X12_readsAct_82 N σ_10 τ_10 v_1 r_10 v_1 h
        refine ⟨fun c k hn => (f9.1 c k hn).trans ?_, fun c k => (f9.2 c k).trans ?_⟩
        · rw [f_10.1 c k (by omega), e_5, up2_ne (by omega), e_4, up2_ne (by omega), f_2.1 c k (by omega)]
        · rw [f_10.2 c k, f_2.2 c k]
      · rw [if_neg c_3] at h
        obtain ⟨r_9, σ_9, τ_9, q_9, h⟩ := bd_some h
        have f_9 := fr_B_X12_numberOf_0 N σ_5 τ_2 1 q_9
        have f9 := fr_B_X12_readsAct_82 N σ_9 τ_9 v_1 r_9 v_1 h
        refine ⟨fun c k hn => (f9.1 c k hn).trans ?_, fun c k => (f9.2 c k).trans ?_⟩
        · rw [f_9.1 c k (by omega), e_5, up2_ne (by omega), e_4, up2_ne (by omega), f_2.1 c k (by omega)]
        · rw [f_9.2 c k, f_2.2 c k]
    · rw [if_neg c_2] at h
      obtain ⟨r_11, σ_11, τ_11, q_11, h⟩ := bd_some h
      have f_11 := fr_B_X12_takesOf_0 N sb_10 σ_5 τ_2 q_11
      have f9 := fr_B_X12_readsAct_82 N σ_11 τ_11 v_1 r_11 v_1 h
      refine ⟨fun c k hn => (f9.1 c k hn).trans ?_, fun c k => (f9.2 c k).trans ?_⟩
      · rw [f_11.1 c k (by omega), e_5, up2_ne (by omega), e_4, up2_ne (by omega), f_2.1 c k (by omega)]
      · rw [f_11.2 c k, f_2.2 c k]
  · rw [if_neg c_1] at h
    obtain ⟨rfl, rfl, rfl⟩ := sm_inj h
    refine ⟨fun c k hn => ?_, fun c k => ?_⟩
    · rw [e_5, up2_ne (by omega), e_4, up2_ne (by omega), f_2.1 c k (by omega)]
    · rw [f_2.2 c k]
set_option maxHeartbeats 2000000 in
theorem fr_B_X12_faultOf_20 (N : Nat) (σ : gI) (τ : gJ) (x1 : Int32) (x2 : Int32) (y0 : Int32) {r : Int32} {σ1 : gI} {τ1 : gJ} (h : B_X12_faultOf_20 N σ τ x1 x2 y0 = some (r, σ1, τ1)) : (∀ c k : Nat, ¬ (False) → σ1 c k = σ c k) ∧ (∀ c k : Nat, τ1 c k = τ c k) := by
  unfold B_X12_faultOf_20 at h
  by_cases c_1 : x1 ≤ x2
  · rw [if_pos c_1] at h
    by_cases c_2 : y0 = 0
    · rw [if_pos c_2] at h
      obtain ⟨rfl, rfl, rfl⟩ := sm_inj h
      refine ⟨fun c k hn => ?_, fun c k => ?_⟩
      · rfl
      · rfl
    · rw [if_neg c_2] at h
      obtain ⟨rfl, rfl, rfl⟩ := sm_inj h
      refine ⟨fun c k hn => ?_, fun c k => ?_⟩
      · rfl
      · rfl
  · rw [if_neg c_1] at h
    by_cases c_3 : y0 = 0
    · rw [if_pos c_3] at h
      by_cases c_4 : σ 199 14 < x2
      · rw [if_pos c_4] at h
        by_cases c_5 : y0 = 0
        · rw [if_pos c_5] at h
          obtain ⟨rfl, rfl, rfl⟩ := sm_inj h
          refine ⟨fun c k hn => ?_, fun c k => ?_⟩
          · rfl
          · rfl
        · rw [if_neg c_5] at h
          obtain ⟨rfl, rfl, rfl⟩ := sm_inj h
          refine ⟨fun c k hn => ?_, fun c k => ?_⟩
          · rfl
          · rfl
      · rw [if_neg c_4] at h
        obtain ⟨rfl, rfl, rfl⟩ := sm_inj h
        refine ⟨fun c k hn => ?_, fun c k => ?_⟩
        · rfl
        · rfl
    · rw [if_neg c_3] at h
      obtain ⟨rfl, rfl, rfl⟩ := sm_inj h
      refine ⟨fun c k hn => ?_, fun c k => ?_⟩
      · rfl
      · rfl
set_option maxHeartbeats 2000000 in
theorem fr_B_X12_faultOf_0 (N : Nat) (σ : gI) (τ : gJ) (x1 : Int32) (x2 : Int32) (x3 : Int32) {r : Int32} {σ1 : gI} {τ1 : gJ} (h : B_X12_faultOf_0 N σ τ x1 x2 x3 = some (r, σ1, τ1)) : (∀ c k : Nat, ¬ (False) → σ1 c k = σ c k) ∧ (∀ c k : Nat, τ1 c k = τ c k) := by
  unfold B_X12_faultOf_0 at h
  by_cases c_1 : x3 = 0
  · rw [if_pos c_1] at h
    have f9 := fr_B_X12_faultOf_20 N σ τ x1 x2 0 h
    refine ⟨fun c k hn => (f9.1 c k hn).trans ?_, fun c k => (f9.2 c k).trans ?_⟩
    · rfl
    · rfl
  · rw [if_neg c_1] at h
    by_cases c_2 : σ 199 14 = σ 199 15
    · rw [if_pos c_2] at h
      have f9 := fr_B_X12_faultOf_20 N σ τ x1 x2 1 h
      refine ⟨fun c k hn => (f9.1 c k hn).trans ?_, fun c k => (f9.2 c k).trans ?_⟩
      · rfl
      · rfl
    · rw [if_neg c_2] at h
      have f9 := fr_B_X12_faultOf_20 N σ τ x1 x2 0 h
      refine ⟨fun c k hn => (f9.1 c k hn).trans ?_, fun c k => (f9.2 c k).trans ?_⟩
      · rfl
      · rfl
set_option maxHeartbeats 2000000 in
theorem fr_C_X12_putsBy_2 (N : Nat) (rec_2 : gI → gJ → Int32 → Option (Unit × gI × gJ)) (hrec_2 : ∀ (σ : gI) (τ : gJ) (x1 : Int32) (r : Unit) (σ1 : gI) (τ1 : gJ), rec_2 σ τ x1 = some (r, σ1, τ1) → (∀ c k : Nat, ¬ (c = 219) → σ1 c k = σ c k) ∧ (∀ c k : Nat, τ1 c k = τ c k)) (σ : gI) (τ : gJ) (x1 : Int32) {r : Unit} {σ1 : gI} {τ1 : gJ} (h : C_X12_putsBy_2 N rec_2 σ τ x1 = some (r, σ1, τ1)) : (∀ c k : Nat, ¬ (c = 219) → σ1 c k = σ c k) ∧ (∀ c k : Nat, τ1 c k = τ c k) := by
  unfold C_X12_putsBy_2 at h
  by_cases c_1 : 45 ≤ x1
  · rw [if_pos c_1] at h
    obtain ⟨-, rfl, rfl⟩ := sm_inj h
    refine ⟨fun c k hn => ?_, fun c k => ?_⟩
    · rfl
    · rfl
  · rw [if_neg c_1] at h
    obtain ⟨j_2, -, -, h⟩ := ck_some h
    obtain ⟨j_3, -, -, h⟩ := ck_some h
    obtain ⟨σ_4, e_4, h⟩ := nm_some h
    obtain ⟨v_5, e_5, h⟩ := nm_some h
    have f9 := hrec_2 σ_4 τ v_5 _ _ _ h
    refine ⟨fun c k hn => (f9.1 c k hn).trans ?_, fun c k => (f9.2 c k).trans ?_⟩
    · rw [e_4, up2_ne (by omega)]
    · rfl
theorem fr_H_X12_putsBy_2 (N : Nat) : ∀ (n : Nat) (σ : gI) (τ : gJ) (x1 : Int32) (r : Unit) (σ1 : gI) (τ1 : gJ), H_X12_putsBy_2 N n σ τ x1 = some (r, σ1, τ1) → (∀ c k : Nat, ¬ (c = 219) → σ1 c k = σ c k) ∧ (∀ c k : Nat, τ1 c k = τ c k) := by
  intro n
  induction n with
  | zero => intro σ τ x1 r σ1 τ1 h; cases h
  | succ n ih =>
    intro σ τ x1 r σ1 τ1 h
    exact fr_C_X12_putsBy_2 N (H_X12_putsBy_2 N n) ih σ τ x1 h
set_option maxHeartbeats 2000000 in
theorem fr_B_X12_putsBy_0 (N : Nat) (σ : gI) (τ : gJ) {r : Unit} {σ1 : gI} {τ1 : gJ} (h : B_X12_putsBy_0 N σ τ = some (r, σ1, τ1)) : (∀ c k : Nat, ¬ (c = 219) → σ1 c k = σ c k) ∧ (∀ c k : Nat, τ1 c k = τ c k) := by
  unfold B_X12_putsBy_0 at h
  have f9 := fr_H_X12_putsBy_2 N N σ τ 0 _ _ _ h
  refine ⟨fun c k hn => (f9.1 c k hn).trans ?_, fun c k => (f9.2 c k).trans ?_⟩
  · rfl
  · rfl
set_option maxHeartbeats 2000000 in
theorem fr_B_X12_isFork_0 (N : Nat) (σ : gI) (τ : gJ) (x1 : Int32) {r : Int32} {σ1 : gI} {τ1 : gJ} (h : B_X12_isFork_0 N σ τ x1 = some (r, σ1, τ1)) : (∀ c k : Nat, ¬ (False) → σ1 c k = σ c k) ∧ (∀ c k : Nat, τ1 c k = τ c k) := by
  unfold B_X12_isFork_0 at h
  obtain ⟨r_1, σ_1, τ_1, q_1, h⟩ := bd_some h
  have f_1 := fr_B_X12_isPlace_0 N σ τ x1 q_1
  by_cases c_1 : r_1 = 0
  · rw [if_pos c_1] at h
    obtain ⟨rfl, rfl, rfl⟩ := sm_inj h
    refine ⟨fun c k hn => ?_, fun c k => ?_⟩
    · rw [f_1.1 c k id]
    · rw [f_1.2 c k]
  · rw [if_neg c_1] at h
    obtain ⟨j_3, -, -, h⟩ := ck_some h
    by_cases c_2 : σ_1 201 j_3 = 1
    · rw [if_pos c_2] at h
      obtain ⟨rfl, rfl, rfl⟩ := sm_inj h
      refine ⟨fun c k hn => ?_, fun c k => ?_⟩
      · rw [f_1.1 c k id]
      · rw [f_1.2 c k]
    · rw [if_neg c_2] at h
      obtain ⟨rfl, rfl, rfl⟩ := sm_inj h
      refine ⟨fun c k hn => ?_, fun c k => ?_⟩
      · rw [f_1.1 c k id]
      · rw [f_1.2 c k]
set_option maxHeartbeats 2000000 in
theorem fr_B_X12_gives_0 (N : Nat) (σ : gI) (τ : gJ) (x1 : Int32) (x2 : Int32) {r : Int32} {σ1 : gI} {τ1 : gJ} (h : B_X12_gives_0 N σ τ x1 x2 = some (r, σ1, τ1)) : (∀ c k : Nat, ¬ (c = 206) → σ1 c k = σ c k) ∧ (∀ c k : Nat, τ1 c k = τ c k) := by
  unfold B_X12_gives_0 at h
  obtain ⟨r_1, σ_1, τ_1, q_1, h⟩ := bd_some h
  have f_1 := fr_B_X12_isThing_0 N σ τ x1 q_1
  by_cases c_1 : r_1 = 0
  · rw [if_pos c_1] at h
    obtain ⟨rfl, rfl, rfl⟩ := sm_inj h
    refine ⟨fun c k hn => ?_, fun c k => ?_⟩
    · rw [f_1.1 c k id]
    · rw [f_1.2 c k]
  · rw [if_neg c_1] at h
    obtain ⟨j_3, -, -, h⟩ := ck_some h
    by_cases c_2 : σ_1 206 j_3 = 0
    · rw [if_pos c_2] at h
      obtain ⟨r_5, σ_5, τ_5, q_5, h⟩ := bd_some h
      have f_5 := fr_B_X12_in_0 N σ_1 τ_1 x2.toInt64 1 9 q_5
      by_cases c_3 : r_5 = 0
      · rw [if_pos c_3] at h
        obtain ⟨rfl, rfl, rfl⟩ := sm_inj h
        refine ⟨fun c k hn => ?_, fun c k => ?_⟩
        · rw [f_5.1 c k id, f_1.1 c k id]
        · rw [f_5.2 c k, f_1.2 c k]
      · rw [if_neg c_3] at h
        obtain ⟨j_7, -, -, h⟩ := ck_some h
        obtain ⟨σ_8, e_8, h⟩ := nm_some h
        obtain ⟨rfl, rfl, rfl⟩ := sm_inj h
        refine ⟨fun c k hn => ?_, fun c k => ?_⟩
        · rw [e_8, up2_ne (by omega), f_5.1 c k id, f_1.1 c k id]
        · rw [f_5.2 c k, f_1.2 c k]
    · rw [if_neg c_2] at h
      obtain ⟨rfl, rfl, rfl⟩ := sm_inj h
      refine ⟨fun c k hn => ?_, fun c k => ?_⟩
      · rw [f_1.1 c k id]
      · rw [f_1.2 c k]
set_option maxHeartbeats 2000000 in
theorem fr_C_X12_does_104 (N : Nat) (rec_104 : gI → gJ → Int32 → Int32 → Int32 → Option (Int32 × gI × gJ)) (hrec_104 : ∀ (σ : gI) (τ : gJ) (x2 : Int32) (x3 : Int32) (x4 : Int32) (r : Int32) (σ1 : gI) (τ1 : gJ), rec_104 σ τ x2 x3 x4 = some (r, σ1, τ1) → (∀ c k : Nat, ¬ (c = 206 ∨ c = 218 ∨ (c = 199 ∧ (k = 34 ∨ k = 43))) → σ1 c k = σ c k) ∧ (∀ c k : Nat, τ1 c k = τ c k)) (σ : gI) (τ : gJ) (x2 : Int32) (x3 : Int32) (x4 : Int32) {r : Int32} {σ1 : gI} {τ1 : gJ} (h : C_X12_does_104 N rec_104 σ τ x2 x3 x4 = some (r, σ1, τ1)) : (∀ c k : Nat, ¬ (c = 206 ∨ c = 218 ∨ (c = 199 ∧ (k = 34 ∨ k = 43))) → σ1 c k = σ c k) ∧ (∀ c k : Nat, τ1 c k = τ c k) := by
  unfold C_X12_does_104 at h
  by_cases c_1 : x2 ≤ x4
  · rw [if_pos c_1] at h
    obtain ⟨r_2, σ_2, τ_2, q_2, h⟩ := bd_some h
    have f_2 := fr_B_X12_thoseHow_0 N 206 σ τ 1 q_2
    obtain ⟨r_3, σ_3, τ_3, q_3, h⟩ := bd_some h
    have f_3 := fr_B_J6_bitCount_0f7a4_0 N σ_2 τ_2 (r_2 &&& (x3 ^^^ (-1))) q_3
    obtain ⟨σ_4, e_4, h⟩ := nm_some h
    obtain ⟨rfl, rfl, rfl⟩ := sm_inj h
    refine ⟨fun c k hn => ?_, fun c k => ?_⟩
    · rw [e_4, up2_ne (by omega), f_3.1 c k id, f_2.1 c k id]
    · rw [f_3.2 c k, f_2.2 c k]
  · rw [if_neg c_1] at h
    obtain ⟨r_5, σ_5, τ_5, q_5, h⟩ := bd_some h
    have f_5 := fr_B_X12_minuteGoes_0 N 206 σ τ q_5
    obtain ⟨v_6, e_6, h⟩ := nm_some h
    have f9 := hrec_104 σ_5 τ_5 x2 x3 v_6 _ _ _ h
    refine ⟨fun c k hn => (f9.1 c k hn).trans ?_, fun c k => (f9.2 c k).trans ?_⟩
    · rw [f_5.1 c k (by omega)]
    · rw [f_5.2 c k]
theorem fr_H_X12_does_104 (N : Nat) : ∀ (n : Nat) (σ : gI) (τ : gJ) (x2 : Int32) (x3 : Int32) (x4 : Int32) (r : Int32) (σ1 : gI) (τ1 : gJ), H_X12_does_104 N n σ τ x2 x3 x4 = some (r, σ1, τ1) → (∀ c k : Nat, ¬ (c = 206 ∨ c = 218 ∨ (c = 199 ∧ (k = 34 ∨ k = 43))) → σ1 c k = σ c k) ∧ (∀ c k : Nat, τ1 c k = τ c k) := by
  intro n
  induction n with
  | zero => intro σ τ x2 x3 x4 r σ1 τ1 h; cases h
  | succ n ih =>
    intro σ τ x2 x3 x4 r σ1 τ1 h
    exact fr_C_X12_does_104 N (H_X12_does_104 N n) ih σ τ x2 x3 x4 h
set_option maxHeartbeats 2000000 in
theorem fr_B_X12_does_0 (N : Nat) (σ : gI) (τ : gJ) (x1 : Int32) {r : Int32} {σ1 : gI} {τ1 : gJ} (h : B_X12_does_0 N σ τ x1 = some (r, σ1, τ1)) : (∀ c k : Nat, ¬ (c = 206 ∨ c = 218 ∨ (c = 199 ∧ (k = 34 ∨ k = 43))) → σ1 c k = σ c k) ∧ (∀ c k : Nat, τ1 c k = τ c k) := by
  unfold B_X12_does_0 at h
  obtain ⟨j_1, -, -, h⟩ := ck_some h
  obtain ⟨v_2, e_2, h⟩ := nm_some h
  by_cases c_1 : (σ 220 j_1) = 0
  · rw [if_pos c_1] at h
    obtain ⟨r_4, σ_4, τ_4, q_4, h⟩ := bd_some h
    have f_4 := fr_B_X12_comesNow_0 N σ τ v_2 (σ 222 j_1) (σ 223 j_1) 0 q_4
    by_cases c_2 : r_4 < 0
    · rw [if_pos c_2] at h
      obtain ⟨rfl, rfl, rfl⟩ := sm_inj h
      refine ⟨fun c k hn => ?_, fun c k => ?_⟩
      · rw [f_4.1 c k (by omega)]
      · rw [f_4.2 c k]
    · rw [if_neg c_2] at h
      obtain ⟨rfl, rfl, rfl⟩ := sm_inj h
      refine ⟨fun c k hn => ?_, fun c k => ?_⟩
      · rw [f_4.1 c k (by omega)]
      · rw [f_4.2 c k]
  · rw [if_neg c_1] at h
    by_cases c_3 : (σ 220 j_1) = 1
    · rw [if_pos c_3] at h
      obtain ⟨r_7, σ_7, τ_7, q_7, h⟩ := bd_some h
      have f_7 := fr_B_X12_isFork_0 N σ τ v_2 q_7
      by_cases c_4 : r_7 = 0
      · rw [if_pos c_4] at h
        obtain ⟨rfl, rfl, rfl⟩ := sm_inj h
        refine ⟨fun c k hn => ?_, fun c k => ?_⟩
        · rw [f_7.1 c k id]
        · rw [f_7.2 c k]
      · rw [if_neg c_4] at h
        obtain ⟨σ_9, e_9, h⟩ := nm_some h
        obtain ⟨rfl, rfl, rfl⟩ := sm_inj h
        refine ⟨fun c k hn => ?_, fun c k => ?_⟩
        · rw [e_9, up2_ne (by omega), f_7.1 c k id]
        · rw [f_7.2 c k]
    · rw [if_neg c_3] at h
      by_cases c_5 : (σ 220 j_1) = 2
      · rw [if_pos c_5] at h
        obtain ⟨r_11, σ_11, τ_11, q_11, h⟩ := bd_some h
        have f_11 := fr_B_X12_thoseHow_0 N 206 σ τ 1 q_11
        have f9 := fr_H_X12_does_104 N N σ_11 τ_11 v_2 r_11 0 _ _ _ h
        refine ⟨fun c k hn => (f9.1 c k hn).trans ?_, fun c k => (f9.2 c k).trans ?_⟩
        · rw [f_11.1 c k id]
        · rw [f_11.2 c k]
      · rw [if_neg c_5] at h
        obtain ⟨r_12, σ_12, τ_12, q_12, h⟩ := bd_some h
        have f_12 := fr_B_X12_gives_0 N σ τ v_2 (σ 222 j_1) q_12
        by_cases c_6 : r_12 < 0
        · rw [if_pos c_6] at h
          obtain ⟨rfl, rfl, rfl⟩ := sm_inj h
          refine ⟨fun c k hn => ?_, fun c k => ?_⟩
          · rw [f_12.1 c k (by omega)]
          · rw [f_12.2 c k]
        · rw [if_neg c_6] at h
          obtain ⟨rfl, rfl, rfl⟩ := sm_inj h
          refine ⟨fun c k hn => ?_, fun c k => ?_⟩
          · rw [f_12.1 c k (by omega)]
          · rw [f_12.2 c k]
set_option maxHeartbeats 2000000 in
theorem fr_B_X12_day_134 (N : Nat) (σ : gI) (τ : gJ) (x5 : Int32) (y0 : Int32) {r : Int32} {σ1 : gI} {τ1 : gJ} (h : B_X12_day_134 N σ τ x5 y0 = some (r, σ1, τ1)) : (∀ c k : Nat, ¬ (c = 206 ∨ c = 218 ∨ c = 219 ∨ c = 220 ∨ c = 221 ∨ c = 222 ∨ c = 223 ∨ (c = 199 ∧ (k = 0 ∨ k = 1 ∨ k = 13 ∨ k = 14 ∨ k = 15 ∨ k = 16 ∨ k = 34 ∨ k = 36 ∨ k = 42 ∨ k = 43))) → σ1 c k = σ c k) ∧ (∀ c k : Nat, c ≠ 200 → τ1 c k = τ c k) := by
  unfold B_X12_day_134 at h
  obtain ⟨r_1, σ_1, τ_1, q_1, h⟩ := bd_some h
  have f_1 := fr_B_X12_flag_0 N σ τ y0 q_1
  obtain ⟨r_2, σ_2, τ_2, q_2, h⟩ := bd_some h
  have f_2 := fr_B_X12_enters_0 N σ_1 τ_1 r_1.toInt64 q_2
  obtain ⟨r_3, σ_3, τ_3, q_3, h⟩ := bd_some h
  have f_3 := fr_B_X12_enters_0 N σ_2 τ_2 ((σ_2 199 43).toInt64) q_3
  by_cases c_1 : x5 ≤ 0
  · rw [if_pos c_1] at h
    obtain ⟨rfl, rfl, rfl⟩ := sm_inj h
    refine ⟨fun c k hn => ?_, fun c k hn => ?_⟩
    · rw [f_3.1 c k (by omega), f_2.1 c k (by omega), f_1.1 c k id]
    · rw [f_3.2 c k hn, f_2.2 c k hn, f_1.2 c k]
  · rw [if_neg c_1] at h
    obtain ⟨r_5, σ_5, τ_5, q_5, h⟩ := bd_some h
    have f_5 := fr_B_X12_adds_0 N σ_3 τ_3 x5 q_5
    obtain ⟨rfl, rfl, rfl⟩ := sm_inj h
    refine ⟨fun c k hn => ?_, fun c k hn => ?_⟩
    · rw [f_5.1 c k (by omega), f_3.1 c k (by omega), f_2.1 c k (by omega), f_1.1 c k id]
    · rw [f_5.2 c k, f_3.2 c k hn, f_2.2 c k hn, f_1.2 c k]
set_option maxHeartbeats 2000000 in
theorem fr_C_X12_day_90 (N : Nat) (rec_90 : gI → gJ → Int32 → Option (Int32 × gI × gJ)) (hrec_90 : ∀ (σ : gI) (τ : gJ) (x5 : Int32) (r : Int32) (σ1 : gI) (τ1 : gJ), rec_90 σ τ x5 = some (r, σ1, τ1) → (∀ c k : Nat, ¬ (c = 206 ∨ c = 218 ∨ c = 219 ∨ c = 220 ∨ c = 221 ∨ c = 222 ∨ c = 223 ∨ (c = 199 ∧ (k = 0 ∨ k = 1 ∨ k = 13 ∨ k = 14 ∨ k = 15 ∨ k = 16 ∨ k = 34 ∨ k = 36 ∨ k = 42 ∨ k = 43))) → σ1 c k = σ c k) ∧ (∀ c k : Nat, c ≠ 200 → τ1 c k = τ c k)) (σ : gI) (τ : gJ) (x5 : Int32) {r : Int32} {σ1 : gI} {τ1 : gJ} (h : C_X12_day_90 N rec_90 σ τ x5 = some (r, σ1, τ1)) : (∀ c k : Nat, ¬ (c = 206 ∨ c = 218 ∨ c = 219 ∨ c = 220 ∨ c = 221 ∨ c = 222 ∨ c = 223 ∨ (c = 199 ∧ (k = 0 ∨ k = 1 ∨ k = 13 ∨ k = 14 ∨ k = 15 ∨ k = 16 ∨ k = 34 ∨ k = 36 ∨ k = 42 ∨ k = 43))) → σ1 c k = σ c k) ∧ (∀ c k : Nat, c ≠ 200 → τ1 c k = τ c k) := by
  unfold C_X12_day_90 at h
  by_cases c_1 : σ 199 42 ≤ x5
  · rw [if_pos c_1] at h
    obtain ⟨σ_2, e_2, h⟩ := nm_some h
    by_cases c_2 : σ_2 199 42 ≤ x5
    · rw [if_pos c_2] at h
      have f9 := fr_B_X12_day_134 N σ_2 τ x5 0 h
      refine ⟨fun c k hn => (f9.1 c k hn).trans ?_, fun c k hn => (f9.2 c k hn).trans ?_⟩
      · rw [e_2, up2_ne (by omega)]
      · rfl
    · rw [if_neg c_2] at h
      have f9 := fr_B_X12_day_134 N σ_2 τ x5 1 h
      refine ⟨fun c k hn => (f9.1 c k hn).trans ?_, fun c k hn => (f9.2 c k hn).trans ?_⟩
      · rw [e_2, up2_ne (by omega)]
      · rfl
  · rw [if_neg c_1] at h
    obtain ⟨r_4, σ_4, τ_4, q_4, h⟩ := bd_some h
    have f_4 := fr_B_X12_does_0 N σ τ x5 q_4
    by_cases c_3 : r_4 = 0
    · rw [if_pos c_3] at h
      obtain ⟨σ_6, e_6, h⟩ := nm_some h
      by_cases c_4 : σ_6 199 42 ≤ x5
      · rw [if_pos c_4] at h
        have f9 := fr_B_X12_day_134 N σ_6 τ_4 x5 0 h
        refine ⟨fun c k hn => (f9.1 c k hn).trans ?_, fun c k hn => (f9.2 c k hn).trans ?_⟩
        · rw [e_6, up2_ne (by omega), f_4.1 c k (by omega)]
        · rw [f_4.2 c k]
      · rw [if_neg c_4] at h
        have f9 := fr_B_X12_day_134 N σ_6 τ_4 x5 1 h
        refine ⟨fun c k hn => (f9.1 c k hn).trans ?_, fun c k hn => (f9.2 c k hn).trans ?_⟩
        · rw [e_6, up2_ne (by omega), f_4.1 c k (by omega)]
        · rw [f_4.2 c k]
    · rw [if_neg c_3] at h
      obtain ⟨v_8, e_8, h⟩ := nm_some h
      have f9 := hrec_90 σ_4 τ_4 v_8 _ _ _ h
      refine ⟨fun c k hn => (f9.1 c k hn).trans ?_, fun c k hn => (f9.2 c k hn).trans ?_⟩
      · rw [f_4.1 c k (by omega)]
      · rw [f_4.2 c k]
theorem fr_H_X12_day_90 (N : Nat) : ∀ (n : Nat) (σ : gI) (τ : gJ) (x5 : Int32) (r : Int32) (σ1 : gI) (τ1 : gJ), H_X12_day_90 N n σ τ x5 = some (r, σ1, τ1) → (∀ c k : Nat, ¬ (c = 206 ∨ c = 218 ∨ c = 219 ∨ c = 220 ∨ c = 221 ∨ c = 222 ∨ c = 223 ∨ (c = 199 ∧ (k = 0 ∨ k = 1 ∨ k = 13 ∨ k = 14 ∨ k = 15 ∨ k = 16 ∨ k = 34 ∨ k = 36 ∨ k = 42 ∨ k = 43))) → σ1 c k = σ c k) ∧ (∀ c k : Nat, c ≠ 200 → τ1 c k = τ c k) := by
  intro n
  induction n with
  | zero => intro σ τ x5 r σ1 τ1 h; cases h
  | succ n ih =>
    intro σ τ x5 r σ1 τ1 h
    exact fr_C_X12_day_90 N (H_X12_day_90 N n) ih σ τ x5 h
set_option maxHeartbeats 2000000 in
theorem fr_C_X12_day_29 (N : Nat) (rec_29 : gI → gJ → Int32 → Int32 → Int32 → Option (Int32 × gI × gJ)) (hrec_29 : ∀ (σ : gI) (τ : gJ) (x1 : Int32) (x2 : Int32) (x3 : Int32) (r : Int32) (σ1 : gI) (τ1 : gJ), rec_29 σ τ x1 x2 x3 = some (r, σ1, τ1) → (∀ c k : Nat, ¬ (c = 206 ∨ c = 218 ∨ c = 219 ∨ c = 220 ∨ c = 221 ∨ c = 222 ∨ c = 223 ∨ (c = 199 ∧ (k = 0 ∨ k = 1 ∨ k = 13 ∨ k = 14 ∨ k = 15 ∨ k = 16 ∨ k = 34 ∨ k = 36 ∨ k = 42 ∨ k = 43))) → σ1 c k = σ c k) ∧ (∀ c k : Nat, c ≠ 200 → τ1 c k = τ c k)) (σ : gI) (τ : gJ) (x1 : Int32) (x2 : Int32) (x3 : Int32) {r : Int32} {σ1 : gI} {τ1 : gJ} (h : C_X12_day_29 N rec_29 σ τ x1 x2 x3 = some (r, σ1, τ1)) : (∀ c k : Nat, ¬ (c = 206 ∨ c = 218 ∨ c = 219 ∨ c = 220 ∨ c = 221 ∨ c = 222 ∨ c = 223 ∨ (c = 199 ∧ (k = 0 ∨ k = 1 ∨ k = 13 ∨ k = 14 ∨ k = 15 ∨ k = 16 ∨ k = 34 ∨ k = 36 ∨ k = 42 ∨ k = 43))) → σ1 c k = σ c k) ∧ (∀ c k : Nat, c ≠ 200 → τ1 c k = τ c k) := by
  unfold C_X12_day_29 at h
  by_cases c_1 : x3 = 0
  · rw [if_pos c_1] at h
    obtain ⟨r_2, σ_2, τ_2, q_2, h⟩ := bd_some h
    have f_2 := fr_B_X12_faultOf_0 N σ τ x1 60 x2 q_2
    by_cases c_2 : 0 ≤ r_2
    · rw [if_pos c_2] at h
      obtain ⟨r_4, σ_4, τ_4, q_4, h⟩ := bd_some h
      have f_4 := fr_B_X12_putsBy_0 N σ_2 τ_2 q_4
      obtain ⟨σ_5, e_5, h⟩ := nm_some h
      have f9 := fr_H_X12_day_90 N N σ_5 τ_4 0 _ _ _ h
      refine ⟨fun c k hn => (f9.1 c k hn).trans ?_, fun c k hn => (f9.2 c k hn).trans ?_⟩
      · rw [e_5, up2_ne (by omega), f_4.1 c k (by omega), f_2.1 c k id]
      · rw [f_4.2 c k, f_2.2 c k]
    · rw [if_neg c_2] at h
      obtain ⟨rfl, rfl, rfl⟩ := sm_inj h
      refine ⟨fun c k hn => ?_, fun c k hn => ?_⟩
      · rw [f_2.1 c k id]
      · rw [f_2.2 c k]
  · rw [if_neg c_1] at h
    obtain ⟨r_6, σ_6, τ_6, q_6, h⟩ := bd_some h
    have f_6 := fr_B_X12_readsAct_0 N σ τ q_6
    by_cases c_3 : r_6 = 0
    · rw [if_pos c_3] at h
      have f9 := hrec_29 σ_6 τ_6 x1 r_6 0 _ _ _ h
      refine ⟨fun c k hn => (f9.1 c k hn).trans ?_, fun c k hn => (f9.2 c k hn).trans ?_⟩
      · rw [f_6.1 c k (by omega)]
      · rw [f_6.2 c k]
    · rw [if_neg c_3] at h
      obtain ⟨r_8, σ_8, τ_8, q_8, h⟩ := bd_some h
      have f_8 := fr_B_X12_takes_0 N σ_6 τ_6 59 q_8
      by_cases c_4 : r_8 = 0
      · rw [if_pos c_4] at h
        have f9 := hrec_29 σ_8 τ_8 x1 r_6 0 _ _ _ h
        refine ⟨fun c k hn => (f9.1 c k hn).trans ?_, fun c k hn => (f9.2 c k hn).trans ?_⟩
        · rw [f_8.1 c k (by omega), f_6.1 c k (by omega)]
        · rw [f_8.2 c k, f_6.2 c k]
      · rw [if_neg c_4] at h
        have f9 := hrec_29 σ_8 τ_8 x1 r_6 1 _ _ _ h
        refine ⟨fun c k hn => (f9.1 c k hn).trans ?_, fun c k hn => (f9.2 c k hn).trans ?_⟩
        · rw [f_8.1 c k (by omega), f_6.1 c k (by omega)]
        · rw [f_8.2 c k, f_6.2 c k]
theorem fr_H_X12_day_29 (N : Nat) : ∀ (n : Nat) (σ : gI) (τ : gJ) (x1 : Int32) (x2 : Int32) (x3 : Int32) (r : Int32) (σ1 : gI) (τ1 : gJ), H_X12_day_29 N n σ τ x1 x2 x3 = some (r, σ1, τ1) → (∀ c k : Nat, ¬ (c = 206 ∨ c = 218 ∨ c = 219 ∨ c = 220 ∨ c = 221 ∨ c = 222 ∨ c = 223 ∨ (c = 199 ∧ (k = 0 ∨ k = 1 ∨ k = 13 ∨ k = 14 ∨ k = 15 ∨ k = 16 ∨ k = 34 ∨ k = 36 ∨ k = 42 ∨ k = 43))) → σ1 c k = σ c k) ∧ (∀ c k : Nat, c ≠ 200 → τ1 c k = τ c k) := by
  intro n
  induction n with
  | zero => intro σ τ x1 x2 x3 r σ1 τ1 h; cases h
  | succ n ih =>
    intro σ τ x1 x2 x3 r σ1 τ1 h
    exact fr_C_X12_day_29 N (H_X12_day_29 N n) ih σ τ x1 x2 x3 h
set_option maxHeartbeats 2000000 in
theorem fr_B_X12_day_0 (N : Nat) (σ : gI) (τ : gJ) {r : Int32} {σ1 : gI} {τ1 : gJ} (h : B_X12_day_0 N σ τ = some (r, σ1, τ1)) : (∀ c k : Nat, ¬ (c = 206 ∨ c = 218 ∨ c = 219 ∨ c = 220 ∨ c = 221 ∨ c = 222 ∨ c = 223 ∨ (c = 199 ∧ (k = 0 ∨ k = 1 ∨ k = 13 ∨ k = 14 ∨ k = 15 ∨ k = 16 ∨ k = 34 ∨ k = 36 ∨ k = 42 ∨ k = 43))) → σ1 c k = σ c k) ∧ (∀ c k : Nat, c ≠ 200 → τ1 c k = τ c k) := by
  unfold B_X12_day_0 at h
  obtain ⟨σ_1, e_1, h⟩ := nm_some h
  obtain ⟨r_2, σ_2, τ_2, q_2, h⟩ := bd_some h
  have f_2 := fr_B_X12_begins_0 N σ_1 τ 60 q_2
  obtain ⟨σ_3, e_3, h⟩ := nm_some h
  by_cases c_1 : r_2 ≤ 0
  · rw [if_pos c_1] at h
    have f9 := fr_H_X12_day_29 N N σ_3 τ_2 r_2 1 0 _ _ _ h
    refine ⟨fun c k hn => (f9.1 c k hn).trans ?_, fun c k hn => (f9.2 c k hn).trans ?_⟩
    · rw [e_3, up2_ne (by omega), f_2.1 c k (by omega), e_1, up2_ne (by omega)]
    · rw [f_2.2 c k]
  · rw [if_neg c_1] at h
    have f9 := fr_H_X12_day_29 N N σ_3 τ_2 r_2 1 1 _ _ _ h
    refine ⟨fun c k hn => (f9.1 c k hn).trans ?_, fun c k hn => (f9.2 c k hn).trans ?_⟩
    · rw [e_3, up2_ne (by omega), f_2.1 c k (by omega), e_1, up2_ne (by omega)]
    · rw [f_2.2 c k]
set_option maxHeartbeats 2000000 in
theorem fr_B_X12_playsOut_0 (N : Nat) (σ : gI) (τ : gJ) (x1 : Int32) {r : Int32} {σ1 : gI} {τ1 : gJ} (h : B_X12_playsOut_0 N σ τ x1 = some (r, σ1, τ1)) : (∀ c k : Nat, ¬ (c = 218 ∨ c = 224 ∨ c = 225 ∨ (c = 199 ∧ (k = 34 ∨ k = 45))) → σ1 c k = σ c k) ∧ (∀ c k : Nat, τ1 c k = τ c k) := by
  unfold B_X12_playsOut_0 at h
  obtain ⟨j_1, -, -, h⟩ := ck_some h
  by_cases c_1 : 0 ≤ σ 225 j_1
  · rw [if_pos c_1] at h
    obtain ⟨rfl, rfl, rfl⟩ := sm_inj h
    refine ⟨fun c k hn => ?_, fun c k => ?_⟩
    · rfl
    · rfl
  · rw [if_neg c_1] at h
    obtain ⟨σ_3, e_3, h⟩ := nm_some h
    obtain ⟨r_4, σ_4, τ_4, q_4, h⟩ := bd_some h
    have f_4 := fr_B_X12_sails_0 N σ_3 τ (σ_3 199 48) (σ_3 199 49) (σ_3 199 50) 0 (σ_3 199 51) q_4
    by_cases c_2 : r_4 < 0
    · rw [if_pos c_2] at h
      obtain ⟨r_6, σ_6, τ_6, q_6, h⟩ := bd_some h
      have f_6 := fr_B_X12_flag_0 N σ_4 τ_4 0 q_6
      obtain ⟨σ_7, e_7, h⟩ := nm_some h
      obtain ⟨rfl, rfl, rfl⟩ := sm_inj h
      refine ⟨fun c k hn => ?_, fun c k => ?_⟩
      · rw [e_7, up2_ne (by omega), f_6.1 c k id, f_4.1 c k (by omega), e_3, up2_ne (by omega)]
      · rw [f_6.2 c k, f_4.2 c k]
    · rw [if_neg c_2] at h
      obtain ⟨r_8, σ_8, τ_8, q_8, h⟩ := bd_some h
      have f_8 := fr_B_X12_flag_0 N σ_4 τ_4 1 q_8
      obtain ⟨σ_9, e_9, h⟩ := nm_some h
      obtain ⟨rfl, rfl, rfl⟩ := sm_inj h
      refine ⟨fun c k hn => ?_, fun c k => ?_⟩
      · rw [e_9, up2_ne (by omega), f_8.1 c k id, f_4.1 c k (by omega), e_3, up2_ne (by omega)]
      · rw [f_8.2 c k, f_4.2 c k]
set_option maxHeartbeats 2000000 in
theorem fr_C_X12_plays_39 (N : Nat) (me_plays : gI → gJ → Int32 → Int32 → Int32 → Option (Int32 × gI × gJ)) (hme_plays : ∀ (σ : gI) (τ : gJ) (x1 : Int32) (x2 : Int32) (x3 : Int32) (r : Int32) (σ1 : gI) (τ1 : gJ), me_plays σ τ x1 x2 x3 = some (r, σ1, τ1) → (∀ c k : Nat, ¬ (c = 218 ∨ c = 224 ∨ c = 225 ∨ (c = 199 ∧ (k = 34 ∨ k = 45))) → σ1 c k = σ c k) ∧ (∀ c k : Nat, τ1 c k = τ c k)) (rec_39 : gI → gJ → Int32 → Int32 → Int32 → Int32 → Int32 → Int32 → Option (Int32 × gI × gJ)) (hrec_39 : ∀ (σ : gI) (τ : gJ) (x1 : Int32) (x2 : Int32) (x3 : Int32) (x4 : Int32) (x5 : Int32) (x6 : Int32) (r : Int32) (σ1 : gI) (τ1 : gJ), rec_39 σ τ x1 x2 x3 x4 x5 x6 = some (r, σ1, τ1) → (∀ c k : Nat, ¬ (c = 218 ∨ c = 224 ∨ c = 225 ∨ (c = 199 ∧ (k = 34 ∨ k = 45))) → σ1 c k = σ c k) ∧ (∀ c k : Nat, τ1 c k = τ c k)) (σ : gI) (τ : gJ) (x1 : Int32) (x2 : Int32) (x3 : Int32) (x4 : Int32) (x5 : Int32) (x6 : Int32) {r : Int32} {σ1 : gI} {τ1 : gJ} (h : C_X12_plays_39 me_plays N rec_39 σ τ x1 x2 x3 x4 x5 x6 = some (r, σ1, τ1)) : (∀ c k : Nat, ¬ (c = 218 ∨ c = 224 ∨ c = 225 ∨ (c = 199 ∧ (k = 34 ∨ k = 45))) → σ1 c k = σ c k) ∧ (∀ c k : Nat, τ1 c k = τ c k) := by
  unfold C_X12_plays_39 at h
  by_cases c_1 : σ 199 3 ≤ x6
  · rw [if_pos c_1] at h
    obtain ⟨rfl, rfl, rfl⟩ := sm_inj h
    refine ⟨fun c k hn => ?_, fun c k => ?_⟩
    · rfl
    · rfl
  · rw [if_neg c_1] at h
    obtain ⟨j_2, -, -, h⟩ := ck_some h
    by_cases c_2 : σ 201 j_2 = 1
    · rw [if_pos c_2] at h
      obtain ⟨r_5, σ_5, τ_5, q_5, h⟩ := bd_some h
      have f_5 := hme_plays σ τ (x1 ^^^ (1 <<< (x6 &&& 31))) (x2 - 1) x3 _ _ _ q_5
      by_cases c_3 : x4 = 0
      · rw [if_pos c_3] at h
        obtain ⟨v_7, e_7, h⟩ := nm_some h
        obtain ⟨v_8, e_8, h⟩ := nm_some h
        have f9 := hrec_39 σ_5 τ_5 x1 x2 x3 x4 v_7 v_8 _ _ _ h
        refine ⟨fun c k hn => (f9.1 c k hn).trans ?_, fun c k => (f9.2 c k).trans ?_⟩
        · rw [f_5.1 c k (by omega)]
        · rw [f_5.2 c k]
      · rw [if_neg c_3] at h
        obtain ⟨v_9, e_9, h⟩ := nm_some h
        obtain ⟨v_10, e_10, h⟩ := nm_some h
        have f9 := hrec_39 σ_5 τ_5 x1 x2 x3 x4 v_9 v_10 _ _ _ h
        refine ⟨fun c k hn => (f9.1 c k hn).trans ?_, fun c k => (f9.2 c k).trans ?_⟩
        · rw [f_5.1 c k (by omega)]
        · rw [f_5.2 c k]
    · rw [if_neg c_2] at h
      obtain ⟨v_4, e_4, h⟩ := nm_some h
      have f9 := hrec_39 σ τ x1 x2 x3 x4 x5 v_4 _ _ _ h
      refine ⟨fun c k hn => (f9.1 c k hn).trans ?_, fun c k => (f9.2 c k).trans ?_⟩
      · rfl
      · rfl
theorem fr_H_X12_plays_39 (N : Nat) (me_plays : gI → gJ → Int32 → Int32 → Int32 → Option (Int32 × gI × gJ)) (hme_plays : ∀ (σ : gI) (τ : gJ) (x1 : Int32) (x2 : Int32) (x3 : Int32) (r : Int32) (σ1 : gI) (τ1 : gJ), me_plays σ τ x1 x2 x3 = some (r, σ1, τ1) → (∀ c k : Nat, ¬ (c = 218 ∨ c = 224 ∨ c = 225 ∨ (c = 199 ∧ (k = 34 ∨ k = 45))) → σ1 c k = σ c k) ∧ (∀ c k : Nat, τ1 c k = τ c k)) : ∀ (n : Nat) (σ : gI) (τ : gJ) (x1 : Int32) (x2 : Int32) (x3 : Int32) (x4 : Int32) (x5 : Int32) (x6 : Int32) (r : Int32) (σ1 : gI) (τ1 : gJ), H_X12_plays_39 me_plays N n σ τ x1 x2 x3 x4 x5 x6 = some (r, σ1, τ1) → (∀ c k : Nat, ¬ (c = 218 ∨ c = 224 ∨ c = 225 ∨ (c = 199 ∧ (k = 34 ∨ k = 45))) → σ1 c k = σ c k) ∧ (∀ c k : Nat, τ1 c k = τ c k) := by
  intro n
  induction n with
  | zero => intro σ τ x1 x2 x3 x4 x5 x6 r σ1 τ1 h; cases h
  | succ n ih =>
    intro σ τ x1 x2 x3 x4 x5 x6 r σ1 τ1 h
    exact fr_C_X12_plays_39 N me_plays hme_plays (H_X12_plays_39 me_plays N n) ih σ τ x1 x2 x3 x4 x5 x6 h
set_option maxHeartbeats 2000000 in
theorem fr_B_X12_plays_23 (N : Nat) (me_plays : gI → gJ → Int32 → Int32 → Int32 → Option (Int32 × gI × gJ)) (hme_plays : ∀ (σ : gI) (τ : gJ) (x1 : Int32) (x2 : Int32) (x3 : Int32) (r : Int32) (σ1 : gI) (τ1 : gJ), me_plays σ τ x1 x2 x3 = some (r, σ1, τ1) → (∀ c k : Nat, ¬ (c = 218 ∨ c = 224 ∨ c = 225 ∨ (c = 199 ∧ (k = 34 ∨ k = 45))) → σ1 c k = σ c k) ∧ (∀ c k : Nat, τ1 c k = τ c k)) (σ : gI) (τ : gJ) (x1 : Int32) (x2 : Int32) (x3 : Int32) (y0 : Int32) {r : Int32} {σ1 : gI} {τ1 : gJ} (h : B_X12_plays_23 me_plays N σ τ x1 x2 x3 y0 = some (r, σ1, τ1)) : (∀ c k : Nat, ¬ (c = 218 ∨ c = 224 ∨ c = 225 ∨ (c = 199 ∧ (k = 34 ∨ k = 45))) → σ1 c k = σ c k) ∧ (∀ c k : Nat, τ1 c k = τ c k) := by
  unfold B_X12_plays_23 at h
  obtain ⟨r_1, σ_1, τ_1, q_1, h⟩ := bd_some h
  have f_1 := hme_plays σ τ x1 (x2 - 1) x3 _ _ _ q_1
  have f9 := fr_H_X12_plays_39 N me_plays hme_plays N σ_1 τ_1 x1 x2 x3 y0 r_1 0 _ _ _ h
  refine ⟨fun c k hn => (f9.1 c k hn).trans ?_, fun c k => (f9.2 c k).trans ?_⟩
  · rw [f_1.1 c k (by omega)]
  · rw [f_1.2 c k]
set_option maxHeartbeats 2000000 in
theorem fr_B_X12_plays_0 (N : Nat) (me_plays : gI → gJ → Int32 → Int32 → Int32 → Option (Int32 × gI × gJ)) (hme_plays : ∀ (σ : gI) (τ : gJ) (x1 : Int32) (x2 : Int32) (x3 : Int32) (r : Int32) (σ1 : gI) (τ1 : gJ), me_plays σ τ x1 x2 x3 = some (r, σ1, τ1) → (∀ c k : Nat, ¬ (c = 218 ∨ c = 224 ∨ c = 225 ∨ (c = 199 ∧ (k = 34 ∨ k = 45))) → σ1 c k = σ c k) ∧ (∀ c k : Nat, τ1 c k = τ c k)) (σ : gI) (τ : gJ) (x1 : Int32) (x2 : Int32) (x3 : Int32) {r : Int32} {σ1 : gI} {τ1 : gJ} (h : B_X12_plays_0 me_plays N σ τ x1 x2 x3 = some (r, σ1, τ1)) : (∀ c k : Nat, ¬ (c = 218 ∨ c = 224 ∨ c = 225 ∨ (c = 199 ∧ (k = 34 ∨ k = 45))) → σ1 c k = σ c k) ∧ (∀ c k : Nat, τ1 c k = τ c k) := by
  unfold B_X12_plays_0 at h
  by_cases c_1 : x2 = 0
  · rw [if_pos c_1] at h
    obtain ⟨r_3, σ_3, τ_3, q_3, h⟩ := bd_some h
    have f_3 := fr_B_X12_playsOut_0 N σ τ x1 q_3
    obtain ⟨rfl, rfl, rfl⟩ := sm_inj h
    refine ⟨fun c k hn => ?_, fun c k => ?_⟩
    · rw [f_3.1 c k (by omega)]
    · rw [f_3.2 c k]
  · rw [if_neg c_1] at h
    by_cases c_2 : (x3 - x2) - (x3 - x2) / 2 * 2 = 0
    · rw [if_pos c_2] at h
      have f9 := fr_B_X12_plays_23 N me_plays hme_plays σ τ x1 x2 x3 1 h
      refine ⟨fun c k hn => (f9.1 c k hn).trans ?_, fun c k => (f9.2 c k).trans ?_⟩
      · rfl
      · rfl
    · rw [if_neg c_2] at h
      have f9 := fr_B_X12_plays_23 N me_plays hme_plays σ τ x1 x2 x3 0 h
      refine ⟨fun c k hn => (f9.1 c k hn).trans ?_, fun c k => (f9.2 c k).trans ?_⟩
      · rfl
      · rfl
theorem fr_R_X12_plays (N : Nat) : ∀ D : Nat, (∀ (σ : gI) (τ : gJ) (x1 : Int32) (x2 : Int32) (x3 : Int32) (r : Int32) (σ1 : gI) (τ1 : gJ), (R_X12_plays N D) σ τ x1 x2 x3 = some (r, σ1, τ1) → (∀ c k : Nat, ¬ (c = 218 ∨ c = 224 ∨ c = 225 ∨ (c = 199 ∧ (k = 34 ∨ k = 45))) → σ1 c k = σ c k) ∧ (∀ c k : Nat, τ1 c k = τ c k)) := by
  intro D
  induction D with
  | zero => exact fun σ τ x1 x2 x3 r σ1 τ1 h => (by cases h)
  | succ D ih => exact fun σ τ x1 x2 x3 r σ1 τ1 h => fr_B_X12_plays_0 N ((R_X12_plays N D)) (ih) σ τ x1 x2 x3 h
set_option maxHeartbeats 2000000 in
theorem fr_B_X12_duel_170 (N : Nat) (σ : gI) (τ : gJ) (x7 : Int32) (x8 : Int32) {r : Int32} {σ1 : gI} {τ1 : gJ} (h : B_X12_duel_170 N σ τ x7 x8 = some (r, σ1, τ1)) : (∀ c k : Nat, ¬ (c = 218 ∨ c = 224 ∨ c = 225 ∨ (c = 199 ∧ (k = 0 ∨ k = 1 ∨ k = 34 ∨ k = 45 ∨ k = 46 ∨ k = 48 ∨ k = 49 ∨ k = 50 ∨ k = 51))) → σ1 c k = σ c k) ∧ (∀ c k : Nat, c ≠ 200 → τ1 c k = τ c k) := by
  unfold B_X12_duel_170 at h
  obtain ⟨σ_1, e_1, h⟩ := nm_some h
  obtain ⟨r_2, σ_2, τ_2, q_2, h⟩ := bd_some h
  have f_2 := fr_B_X12_enters_0 N σ_1 τ x8.toInt64 q_2
  obtain ⟨rfl, rfl, rfl⟩ := sm_inj h
  refine ⟨fun c k hn => ?_, fun c k hn => ?_⟩
  · rw [f_2.1 c k (by omega), e_1, up2_ne (by omega)]
  · rw [f_2.2 c k hn]
set_option maxHeartbeats 2000000 in
theorem fr_C_X12_duel_131 (N : Nat) (rec_131 : gI → gJ → Int32 → Int32 → Int32 → Int32 → Option (Int32 × gI × gJ)) (hrec_131 : ∀ (σ : gI) (τ : gJ) (x5 : Int32) (x6 : Int32) (x7 : Int32) (x8 : Int32) (r : Int32) (σ1 : gI) (τ1 : gJ), rec_131 σ τ x5 x6 x7 x8 = some (r, σ1, τ1) → (∀ c k : Nat, ¬ (c = 218 ∨ c = 224 ∨ c = 225 ∨ (c = 199 ∧ (k = 0 ∨ k = 1 ∨ k = 34 ∨ k = 45 ∨ k = 46 ∨ k = 48 ∨ k = 49 ∨ k = 50 ∨ k = 51))) → σ1 c k = σ c k) ∧ (∀ c k : Nat, c ≠ 200 → τ1 c k = τ c k)) (σ : gI) (τ : gJ) (x5 : Int32) (x6 : Int32) (x7 : Int32) (x8 : Int32) {r : Int32} {σ1 : gI} {τ1 : gJ} (h : C_X12_duel_131 N rec_131 σ τ x5 x6 x7 x8 = some (r, σ1, τ1)) : (∀ c k : Nat, ¬ (c = 218 ∨ c = 224 ∨ c = 225 ∨ (c = 199 ∧ (k = 0 ∨ k = 1 ∨ k = 34 ∨ k = 45 ∨ k = 46 ∨ k = 48 ∨ k = 49 ∨ k = 50 ∨ k = 51))) → σ1 c k = σ c k) ∧ (∀ c k : Nat, c ≠ 200 → τ1 c k = τ c k) := by
  unfold C_X12_duel_131 at h
  obtain ⟨j_1, -, -, h⟩ := ck_some h
  by_cases c_1 : σ 201 j_1 = 1
  · rw [if_pos c_1] at h
    obtain ⟨r_4, σ_4, τ_4, q_4, h⟩ := bd_some h
    have f_4 := (fr_R_X12_plays N 5) σ τ (x6 ^^^ (1 <<< (x8 &&& 31))) (x5 - 1) x5 _ _ _ q_4
    by_cases c_2 : r_4 = x7
    · rw [if_pos c_2] at h
      have f9 := fr_B_X12_duel_170 N σ_4 τ_4 x7 x8 h
      refine ⟨fun c k hn => (f9.1 c k hn).trans ?_, fun c k hn => (f9.2 c k hn).trans ?_⟩
      · rw [f_4.1 c k (by omega)]
      · rw [f_4.2 c k]
    · rw [if_neg c_2] at h
      obtain ⟨v_6, e_6, h⟩ := nm_some h
      have f9 := hrec_131 σ_4 τ_4 x5 x6 x7 v_6 _ _ _ h
      refine ⟨fun c k hn => (f9.1 c k hn).trans ?_, fun c k hn => (f9.2 c k hn).trans ?_⟩
      · rw [f_4.1 c k (by omega)]
      · rw [f_4.2 c k]
  · rw [if_neg c_1] at h
    obtain ⟨v_3, e_3, h⟩ := nm_some h
    have f9 := hrec_131 σ τ x5 x6 x7 v_3 _ _ _ h
    refine ⟨fun c k hn => (f9.1 c k hn).trans ?_, fun c k hn => (f9.2 c k hn).trans ?_⟩
    · rfl
    · rfl
theorem fr_H_X12_duel_131 (N : Nat) : ∀ (n : Nat) (σ : gI) (τ : gJ) (x5 : Int32) (x6 : Int32) (x7 : Int32) (x8 : Int32) (r : Int32) (σ1 : gI) (τ1 : gJ), H_X12_duel_131 N n σ τ x5 x6 x7 x8 = some (r, σ1, τ1) → (∀ c k : Nat, ¬ (c = 218 ∨ c = 224 ∨ c = 225 ∨ (c = 199 ∧ (k = 0 ∨ k = 1 ∨ k = 34 ∨ k = 45 ∨ k = 46 ∨ k = 48 ∨ k = 49 ∨ k = 50 ∨ k = 51))) → σ1 c k = σ c k) ∧ (∀ c k : Nat, c ≠ 200 → τ1 c k = τ c k) := by
  intro n
  induction n with
  | zero => intro σ τ x5 x6 x7 x8 r σ1 τ1 h; cases h
  | succ n ih =>
    intro σ τ x5 x6 x7 x8 r σ1 τ1 h
    exact fr_C_X12_duel_131 N (H_X12_duel_131 N n) ih σ τ x5 x6 x7 x8 h
set_option maxHeartbeats 2000000 in
theorem fr_C_X12_duel_60 (N : Nat) (rec_60 : gI → gJ → Int32 → Int32 → Option (Int32 × gI × gJ)) (hrec_60 : ∀ (σ : gI) (τ : gJ) (x5 : Int32) (x6 : Int32) (r : Int32) (σ1 : gI) (τ1 : gJ), rec_60 σ τ x5 x6 = some (r, σ1, τ1) → (∀ c k : Nat, ¬ (c = 218 ∨ c = 224 ∨ c = 225 ∨ (c = 199 ∧ (k = 0 ∨ k = 1 ∨ k = 34 ∨ k = 45 ∨ k = 46 ∨ k = 48 ∨ k = 49 ∨ k = 50 ∨ k = 51))) → σ1 c k = σ c k) ∧ (∀ c k : Nat, c ≠ 200 → τ1 c k = τ c k)) (σ : gI) (τ : gJ) (x5 : Int32) (x6 : Int32) {r : Int32} {σ1 : gI} {τ1 : gJ} (h : C_X12_duel_60 N rec_60 σ τ x5 x6 = some (r, σ1, τ1)) : (∀ c k : Nat, ¬ (c = 218 ∨ c = 224 ∨ c = 225 ∨ (c = 199 ∧ (k = 0 ∨ k = 1 ∨ k = 34 ∨ k = 45 ∨ k = 46 ∨ k = 48 ∨ k = 49 ∨ k = 50 ∨ k = 51))) → σ1 c k = σ c k) ∧ (∀ c k : Nat, c ≠ 200 → τ1 c k = τ c k) := by
  unfold C_X12_duel_60 at h
  by_cases c_1 : 4096 ≤ x6
  · rw [if_pos c_1] at h
    obtain ⟨v_2, e_2, h⟩ := nm_some h
    obtain ⟨r_3, σ_3, τ_3, q_3, h⟩ := bd_some h
    have f_3 := (fr_R_X12_plays N 5) σ τ v_2 x5 x5 _ _ _ q_3
    by_cases c_2 : x5 ≤ 0
    · rw [if_pos c_2] at h
      have f9 := fr_B_X12_duel_170 N σ_3 τ_3 r_3 (-1) h
      refine ⟨fun c k hn => (f9.1 c k hn).trans ?_, fun c k hn => (f9.2 c k hn).trans ?_⟩
      · rw [f_3.1 c k (by omega)]
      · rw [f_3.2 c k]
    · rw [if_neg c_2] at h
      obtain ⟨r_5, σ_5, τ_5, q_5, h⟩ := bd_some h
      have f_5 := (fr_R_X12_plays N 5) σ_3 τ_3 v_2 (x5 - 1) x5 _ _ _ q_5
      by_cases c_3 : r_5 = r_3
      · rw [if_pos c_3] at h
        have f9 := fr_B_X12_duel_170 N σ_5 τ_5 r_3 (-1) h
        refine ⟨fun c k hn => (f9.1 c k hn).trans ?_, fun c k hn => (f9.2 c k hn).trans ?_⟩
        · rw [f_5.1 c k (by omega), f_3.1 c k (by omega)]
        · rw [f_5.2 c k, f_3.2 c k]
      · rw [if_neg c_3] at h
        have f9 := fr_H_X12_duel_131 N N σ_5 τ_5 x5 v_2 r_3 0 _ _ _ h
        refine ⟨fun c k hn => (f9.1 c k hn).trans ?_, fun c k hn => (f9.2 c k hn).trans ?_⟩
        · rw [f_5.1 c k (by omega), f_3.1 c k (by omega)]
        · rw [f_5.2 c k, f_3.2 c k]
  · rw [if_neg c_1] at h
    obtain ⟨j_7, -, -, h⟩ := ck_some h
    obtain ⟨σ_8, e_8, h⟩ := nm_some h
    obtain ⟨v_9, e_9, h⟩ := nm_some h
    have f9 := hrec_60 σ_8 τ x5 v_9 _ _ _ h
    refine ⟨fun c k hn => (f9.1 c k hn).trans ?_, fun c k hn => (f9.2 c k hn).trans ?_⟩
    · rw [e_8, up2_ne (by omega)]
    · rfl
theorem fr_H_X12_duel_60 (N : Nat) : ∀ (n : Nat) (σ : gI) (τ : gJ) (x5 : Int32) (x6 : Int32) (r : Int32) (σ1 : gI) (τ1 : gJ), H_X12_duel_60 N n σ τ x5 x6 = some (r, σ1, τ1) → (∀ c k : Nat, ¬ (c = 218 ∨ c = 224 ∨ c = 225 ∨ (c = 199 ∧ (k = 0 ∨ k = 1 ∨ k = 34 ∨ k = 45 ∨ k = 46 ∨ k = 48 ∨ k = 49 ∨ k = 50 ∨ k = 51))) → σ1 c k = σ c k) ∧ (∀ c k : Nat, c ≠ 200 → τ1 c k = τ c k) := by
  intro n
  induction n with
  | zero => intro σ τ x5 x6 r σ1 τ1 h; cases h
  | succ n ih =>
    intro σ τ x5 x6 r σ1 τ1 h
    exact fr_C_X12_duel_60 N (H_X12_duel_60 N n) ih σ τ x5 x6 h
set_option maxHeartbeats 2000000 in
theorem fr_B_X12_duel_0 (N : Nat) (σ : gI) (τ : gJ) (x1 : Int32) (x2 : Int32) (x3 : Int32) (x4 : Int32) (x5 : Int32) {r : Int32} {σ1 : gI} {τ1 : gJ} (h : B_X12_duel_0 N σ τ x1 x2 x3 x4 x5 = some (r, σ1, τ1)) : (∀ c k : Nat, ¬ (c = 218 ∨ c = 224 ∨ c = 225 ∨ (c = 199 ∧ (k = 0 ∨ k = 1 ∨ k = 34 ∨ k = 45 ∨ k = 46 ∨ k = 48 ∨ k = 49 ∨ k = 50 ∨ k = 51))) → σ1 c k = σ c k) ∧ (∀ c k : Nat, c ≠ 200 → τ1 c k = τ c k) := by
  unfold B_X12_duel_0 at h
  obtain ⟨σ_1, e_1, h⟩ := nm_some h
  obtain ⟨r_2, σ_2, τ_2, q_2, h⟩ := bd_some h
  have f_2 := fr_B_X12_canSail_0 N σ_1 τ x1 x2 x3 x4 q_2
  by_cases c_1 : r_2 = 0
  · rw [if_pos c_1] at h
    obtain ⟨rfl, rfl, rfl⟩ := sm_inj h
    refine ⟨fun c k hn => ?_, fun c k hn => ?_⟩
    · rw [f_2.1 c k id, e_1, up2_ne (by omega)]
    · rw [f_2.2 c k]
  · rw [if_neg c_1] at h
    obtain ⟨r_4, σ_4, τ_4, q_4, h⟩ := bd_some h
    have f_4 := fr_B_X12_in_0 N σ_2 τ_2 x5.toInt64 0 3 q_4
    by_cases c_2 : r_4 = 0
    · rw [if_pos c_2] at h
      obtain ⟨rfl, rfl, rfl⟩ := sm_inj h
      refine ⟨fun c k hn => ?_, fun c k hn => ?_⟩
      · rw [f_4.1 c k id, f_2.1 c k id, e_1, up2_ne (by omega)]
      · rw [f_4.2 c k, f_2.2 c k]
    · rw [if_neg c_2] at h
      obtain ⟨r_6, σ_6, τ_6, q_6, h⟩ := bd_some h
      have f_6 := fr_B_X12_thinksNow_0 N σ_4 τ_4 q_6
      obtain ⟨σ_7, e_7, h⟩ := nm_some h
      obtain ⟨σ_8, e_8, h⟩ := nm_some h
      obtain ⟨σ_9, e_9, h⟩ := nm_some h
      obtain ⟨σ_10, e_10, h⟩ := nm_some h
      have f9 := fr_H_X12_duel_60 N N σ_10 τ_6 x5 0 _ _ _ h
      refine ⟨fun c k hn => (f9.1 c k hn).trans ?_, fun c k hn => (f9.2 c k hn).trans ?_⟩
      · rw [e_10, up2_ne (by omega), e_9, up2_ne (by omega), e_8, up2_ne (by omega), e_7, up2_ne (by omega), f_6.1 c k (by omega), f_4.1 c k id, f_2.1 c k id, e_1, up2_ne (by omega)]
      · rw [f_6.2 c k, f_4.2 c k, f_2.2 c k]
set_option maxHeartbeats 2000000 in
theorem fr_B_X12_end_0 (N : Nat) (σ : gI) (τ : gJ) (x1 : Int32) {r : Int32} {σ1 : gI} {τ1 : gJ} (h : B_X12_end_0 N σ τ x1 = some (r, σ1, τ1)) : (∀ c k : Nat, ¬ ((c = 199 ∧ (k = 0 ∨ k = 13))) → σ1 c k = σ c k) ∧ (∀ c k : Nat, τ1 c k = τ c k) := by
  unfold B_X12_end_0 at h
  obtain ⟨σ_1, e_1, h⟩ := nm_some h
  obtain ⟨r_2, σ_2, τ_2, q_2, h⟩ := bd_some h
  have f_2 := fr_B_X12_in_0 N σ_1 τ x1.toInt64 0 ((σ_1 199 13).toInt64) q_2
  by_cases c_1 : r_2 = 0
  · rw [if_pos c_1] at h
    obtain ⟨rfl, rfl, rfl⟩ := sm_inj h
    refine ⟨fun c k hn => ?_, fun c k => ?_⟩
    · rw [f_2.1 c k id, e_1, up2_ne (by omega)]
    · rw [f_2.2 c k]
  · rw [if_neg c_1] at h
    obtain ⟨σ_4, e_4, h⟩ := nm_some h
    obtain ⟨rfl, rfl, rfl⟩ := sm_inj h
    refine ⟨fun c k hn => ?_, fun c k => ?_⟩
    · rw [e_4, up2_ne (by omega), f_2.1 c k id, e_1, up2_ne (by omega)]
    · rw [f_2.2 c k]
set_option maxHeartbeats 2000000 in
theorem fr_B_X12_entersFraction_0 (N : Nat) (σ : gI) (τ : gJ) (x1 : Int64) (x3 : Int64) {r : Unit} {σ1 : gI} {τ1 : gJ} (h : B_X12_entersFraction_0 N σ τ x1 x3 = some (r, σ1, τ1)) : (∀ c k : Nat, ¬ ((c = 199 ∧ (k = 1))) → σ1 c k = σ c k) ∧ (∀ c k : Nat, c ≠ 200 → τ1 c k = τ c k) := by
  unfold B_X12_entersFraction_0 at h
  obtain ⟨r_1, σ_1, τ_1, q_1, h⟩ := bd_some h
  have f_1 := (fr_R_X12_common N 100) σ τ x1 x3 _ _ _ q_1
  obtain ⟨-, h⟩ := dzl_some h
  obtain ⟨r_3, σ_3, τ_3, q_3, h⟩ := bd_some h
  have f_3 := fr_B_X12_enters_0 N σ_1 τ_1 (x1 / r_1) q_3
  obtain ⟨-, h⟩ := dzl_some h
  obtain ⟨r_5, σ_5, τ_5, q_5, h⟩ := bd_some h
  have f_5 := fr_B_X12_enters_0 N σ_3 τ_3 (x3 / r_1) q_5
  obtain ⟨-, rfl, rfl⟩ := sm_inj h
  refine ⟨fun c k hn => ?_, fun c k hn => ?_⟩
  · rw [f_5.1 c k (by omega), f_3.1 c k (by omega), f_1.1 c k id]
  · rw [f_5.2 c k hn, f_3.2 c k hn, f_1.2 c k]
set_option maxHeartbeats 2000000 in
theorem fr_B_X12_floatsTo_0 (N : Nat) (σ : gI) (τ : gJ) (x1 : Int32) (x2 : Int32) (x3 : Int32) {r : Int32} {σ1 : gI} {τ1 : gJ} (h : B_X12_floatsTo_0 N σ τ x1 x2 x3 = some (r, σ1, τ1)) : (∀ c k : Nat, ¬ (c = 218 ∨ c = 224 ∨ (c = 199 ∧ (k = 34 ∨ k = 45 ∨ k = 46))) → σ1 c k = σ c k) ∧ (∀ c k : Nat, τ1 c k = τ c k) := by
  unfold B_X12_floatsTo_0 at h
  obtain ⟨σ_1, e_1, h⟩ := nm_some h
  obtain ⟨σ_2, e_2, h⟩ := nm_some h
  obtain ⟨r_3, σ_3, τ_3, q_3, h⟩ := bd_some h
  have f_3 := fr_B_X12_goesAlone_0 N σ_2 τ x1 99 0 0 q_3
  by_cases c_1 : σ_3 224 4 = 1
  · rw [if_pos c_1] at h
    obtain ⟨rfl, rfl, rfl⟩ := sm_inj h
    refine ⟨fun c k hn => ?_, fun c k => ?_⟩
    · rw [f_3.1 c k (by omega), e_2, up2_ne (by omega), e_1, up2_ne (by omega)]
    · rw [f_3.2 c k]
  · rw [if_neg c_1] at h
    obtain ⟨rfl, rfl, rfl⟩ := sm_inj h
    refine ⟨fun c k hn => ?_, fun c k => ?_⟩
    · rw [f_3.1 c k (by omega), e_2, up2_ne (by omega), e_1, up2_ne (by omega)]
    · rw [f_3.2 c k]
set_option maxHeartbeats 2000000 in
theorem fr_B_X12_flow_0 (N : Nat) (σ : gI) (τ : gJ) (x1 : Int32) {r : Int32} {σ1 : gI} {τ1 : gJ} (h : B_X12_flow_0 N σ τ x1 = some (r, σ1, τ1)) : (∀ c k : Nat, ¬ ((c = 199 ∧ (k = 0))) → σ1 c k = σ c k) ∧ (∀ c k : Nat, τ1 c k = τ c k) := by
  unfold B_X12_flow_0 at h
  obtain ⟨σ_1, e_1, h⟩ := nm_some h
  obtain ⟨r_2, σ_2, τ_2, q_2, h⟩ := bd_some h
  have f_2 := fr_B_X12_in_0 N σ_1 τ x1.toInt64 0 9999 q_2
  by_cases c_1 : r_2 = 0
  · rw [if_pos c_1] at h
    obtain ⟨rfl, rfl, rfl⟩ := sm_inj h
    refine ⟨fun c k hn => ?_, fun c k => ?_⟩
    · rw [f_2.1 c k id, e_1, up2_ne (by omega)]
    · rw [f_2.2 c k]
  · rw [if_neg c_1] at h
    obtain ⟨r_4, σ_4, τ_4, q_4, h⟩ := bd_some h
    have f_4 := fr_B_X12_waterIn_0 N σ_2 τ_2 x1 q_4
    obtain ⟨rfl, rfl, rfl⟩ := sm_inj h
    refine ⟨fun c k hn => ?_, fun c k => ?_⟩
    · rw [f_4.1 c k id, f_2.1 c k id, e_1, up2_ne (by omega)]
    · rw [f_4.2 c k, f_2.2 c k]
set_option maxHeartbeats 2000000 in
theorem fr_B_X12_forget_0 (N : Nat) (σ : gI) (τ : gJ) {r : Int32} {σ1 : gI} {τ1 : gJ} (h : B_X12_forget_0 N σ τ = some (r, σ1, τ1)) : (∀ c k : Nat, ¬ ((c = 199 ∧ (k = 0 ∨ k = 52))) → σ1 c k = σ c k) ∧ (∀ c k : Nat, τ1 c k = τ c k) := by
  unfold B_X12_forget_0 at h
  obtain ⟨σ_1, e_1, h⟩ := nm_some h
  obtain ⟨v_2, e_2, h⟩ := nm_some h
  obtain ⟨σ_3, e_3, h⟩ := nm_some h
  obtain ⟨rfl, rfl, rfl⟩ := sm_inj h
  refine ⟨fun c k hn => ?_, fun c k => ?_⟩
  · rw [e_3, up2_ne (by omega), e_1, up2_ne (by omega)]
  · rfl
set_option maxHeartbeats 2000000 in
theorem fr_B_X12_give_0 (N : Nat) (σ : gI) (τ : gJ) (x1 : Int32) (x2 : Int32) {r : Int32} {σ1 : gI} {τ1 : gJ} (h : B_X12_give_0 N σ τ x1 x2 = some (r, σ1, τ1)) : (∀ c k : Nat, ¬ (c = 206 ∨ c = 219 ∨ (c = 199 ∧ (k = 0 ∨ k = 36))) → σ1 c k = σ c k) ∧ (∀ c k : Nat, τ1 c k = τ c k) := by
  unfold B_X12_give_0 at h
  obtain ⟨σ_1, e_1, h⟩ := nm_some h
  obtain ⟨r_2, σ_2, τ_2, q_2, h⟩ := bd_some h
  have f_2 := fr_B_X12_putsBy_0 N σ_1 τ q_2
  obtain ⟨r_3, σ_3, τ_3, q_3, h⟩ := bd_some h
  have f_3 := fr_B_X12_gives_0 N σ_2 τ_2 x1 x2 q_3
  by_cases c_1 : 0 ≤ r_3
  · rw [if_pos c_1] at h
    obtain ⟨r_5, σ_5, τ_5, q_5, h⟩ := bd_some h
    have f_5 := fr_B_X12_adds_0 N σ_3 τ_3 r_3 q_5
    obtain ⟨rfl, rfl, rfl⟩ := sm_inj h
    refine ⟨fun c k hn => ?_, fun c k => ?_⟩
    · rw [f_5.1 c k (by omega), f_3.1 c k (by omega), f_2.1 c k (by omega), e_1, up2_ne (by omega)]
    · rw [f_5.2 c k, f_3.2 c k, f_2.2 c k]
  · rw [if_neg c_1] at h
    obtain ⟨rfl, rfl, rfl⟩ := sm_inj h
    refine ⟨fun c k hn => ?_, fun c k => ?_⟩
    · rw [f_3.1 c k (by omega), f_2.1 c k (by omega), e_1, up2_ne (by omega)]
    · rw [f_3.2 c k, f_2.2 c k]
set_option maxHeartbeats 2000000 in
theorem fr_C_X12_goesOn_13 (N : Nat) (rec_13 : gI → gJ → Int32 → Int32 → Option (Unit × gI × gJ)) (hrec_13 : ∀ (σ : gI) (τ : gJ) (x1 : Int32) (x2 : Int32) (r : Unit) (σ1 : gI) (τ1 : gJ), rec_13 σ τ x1 x2 = some (r, σ1, τ1) → (∀ c k : Nat, ¬ (c = 207 ∨ c = 218 ∨ (c = 199 ∧ (k = 34))) → σ1 c k = σ c k) ∧ (∀ c k : Nat, τ1 c k = τ c k)) (σ : gI) (τ : gJ) (x1 : Int32) (x2 : Int32) {r : Unit} {σ1 : gI} {τ1 : gJ} (h : C_X12_goesOn_13 N rec_13 σ τ x1 x2 = some (r, σ1, τ1)) : (∀ c k : Nat, ¬ (c = 207 ∨ c = 218 ∨ (c = 199 ∧ (k = 34))) → σ1 c k = σ c k) ∧ (∀ c k : Nat, τ1 c k = τ c k) := by
  unfold C_X12_goesOn_13 at h
  by_cases c_1 : x1 ≤ x2
  · rw [if_pos c_1] at h
    obtain ⟨-, rfl, rfl⟩ := sm_inj h
    refine ⟨fun c k hn => ?_, fun c k => ?_⟩
    · rfl
    · rfl
  · rw [if_neg c_1] at h
    obtain ⟨r_2, σ_2, τ_2, q_2, h⟩ := bd_some h
    have f_2 := fr_B_X12_minuteGoes_0 N 207 σ τ q_2
    obtain ⟨v_3, e_3, h⟩ := nm_some h
    have f9 := hrec_13 σ_2 τ_2 x1 v_3 _ _ _ h
    refine ⟨fun c k hn => (f9.1 c k hn).trans ?_, fun c k => (f9.2 c k).trans ?_⟩
    · rw [f_2.1 c k (by omega)]
    · rw [f_2.2 c k]
theorem fr_H_X12_goesOn_13 (N : Nat) : ∀ (n : Nat) (σ : gI) (τ : gJ) (x1 : Int32) (x2 : Int32) (r : Unit) (σ1 : gI) (τ1 : gJ), H_X12_goesOn_13 N n σ τ x1 x2 = some (r, σ1, τ1) → (∀ c k : Nat, ¬ (c = 207 ∨ c = 218 ∨ (c = 199 ∧ (k = 34))) → σ1 c k = σ c k) ∧ (∀ c k : Nat, τ1 c k = τ c k) := by
  intro n
  induction n with
  | zero => intro σ τ x1 x2 r σ1 τ1 h; cases h
  | succ n ih =>
    intro σ τ x1 x2 r σ1 τ1 h
    exact fr_C_X12_goesOn_13 N (H_X12_goesOn_13 N n) ih σ τ x1 x2 h
set_option maxHeartbeats 2000000 in
theorem fr_B_X12_goesOn_0 (N : Nat) (σ : gI) (τ : gJ) (x1 : Int32) {r : Unit} {σ1 : gI} {τ1 : gJ} (h : B_X12_goesOn_0 N σ τ x1 = some (r, σ1, τ1)) : (∀ c k : Nat, ¬ (c = 207 ∨ c = 218 ∨ (c = 199 ∧ (k = 34))) → σ1 c k = σ c k) ∧ (∀ c k : Nat, τ1 c k = τ c k) := by
  unfold B_X12_goesOn_0 at h
  obtain ⟨r_1, σ_1, τ_1, q_1, h⟩ := bd_some h
  have f_1 := fr_B_X12_puts_0 N σ τ q_1
  have f9 := fr_H_X12_goesOn_13 N N σ_1 τ_1 x1 0 _ _ _ h
  refine ⟨fun c k hn => (f9.1 c k hn).trans ?_, fun c k => (f9.2 c k).trans ?_⟩
  · rw [f_1.1 c k (by omega)]
  · rw [f_1.2 c k]
set_option maxHeartbeats 2000000 in
theorem fr_B_X12_homes_0 (N : Nat) (σ : gI) (τ : gJ) (x1 : Int32) {r : Int32} {σ1 : gI} {τ1 : gJ} (h : B_X12_homes_0 N σ τ x1 = some (r, σ1, τ1)) : (∀ c k : Nat, ¬ (c = 207 ∨ c = 218 ∨ (c = 199 ∧ (k = 0 ∨ k = 1 ∨ k = 34))) → σ1 c k = σ c k) ∧ (∀ c k : Nat, c ≠ 200 → τ1 c k = τ c k) := by
  unfold B_X12_homes_0 at h
  obtain ⟨σ_1, e_1, h⟩ := nm_some h
  obtain ⟨r_2, σ_2, τ_2, q_2, h⟩ := bd_some h
  have f_2 := fr_B_X12_in_0 N σ_1 τ x1.toInt64 0 300 q_2
  by_cases c_1 : r_2 = 0
  · rw [if_pos c_1] at h
    obtain ⟨rfl, rfl, rfl⟩ := sm_inj h
    refine ⟨fun c k hn => ?_, fun c k hn => ?_⟩
    · rw [f_2.1 c k id, e_1, up2_ne (by omega)]
    · rw [f_2.2 c k]
  · rw [if_neg c_1] at h
    obtain ⟨r_4, σ_4, τ_4, q_4, h⟩ := bd_some h
    have f_4 := fr_B_X12_goesOn_0 N σ_2 τ_2 x1 q_4
    obtain ⟨σ_5, e_5, h⟩ := nm_some h
    obtain ⟨r_6, σ_6, τ_6, q_6, h⟩ := bd_some h
    have f_6 := fr_B_X12_thoseHow_0 N 207 σ_5 τ_4 2 q_6
    obtain ⟨r_7, σ_7, τ_7, q_7, h⟩ := bd_some h
    have f_7 := fr_B_X12_enters_0 N σ_6 τ_6 r_6.toInt64 q_7
    obtain ⟨r_8, σ_8, τ_8, q_8, h⟩ := bd_some h
    have f_8 := fr_B_X12_thoseHow_0 N 207 σ_7 τ_7 0 q_8
    obtain ⟨r_9, σ_9, τ_9, q_9, h⟩ := bd_some h
    have f_9 := fr_B_X12_enters_0 N σ_8 τ_8 r_8.toInt64 q_9
    obtain ⟨r_10, σ_10, τ_10, q_10, h⟩ := bd_some h
    have f_10 := fr_B_X12_thoseHow_0 N 207 σ_9 τ_9 1 q_10
    obtain ⟨rfl, rfl, rfl⟩ := sm_inj h
    refine ⟨fun c k hn => ?_, fun c k hn => ?_⟩
    · rw [f_10.1 c k id, f_9.1 c k (by omega), f_8.1 c k id, f_7.1 c k (by omega), f_6.1 c k id, e_5, up2_ne (by omega), f_4.1 c k (by omega), f_2.1 c k id, e_1, up2_ne (by omega)]
    · rw [f_10.2 c k, f_9.2 c k hn, f_8.2 c k, f_7.2 c k hn, f_6.2 c k, f_4.2 c k, f_2.2 c k]
set_option maxHeartbeats 2000000 in
theorem fr_C_X12_keep_28 (N : Nat) (rec_28 : gI → gJ → Int32 → Int32 → Option (Int32 × gI × gJ)) (hrec_28 : ∀ (σ : gI) (τ : gJ) (x1 : Int32) (x2 : Int32) (r : Int32) (σ1 : gI) (τ1 : gJ), rec_28 σ τ x1 x2 = some (r, σ1, τ1) → (∀ c k : Nat, ¬ (c = 231 ∨ c = 232 ∨ (c = 199 ∧ (k = 0))) → σ1 c k = σ c k) ∧ (∀ c k : Nat, τ1 c k = τ c k)) (σ : gI) (τ : gJ) (x1 : Int32) (x2 : Int32) {r : Int32} {σ1 : gI} {τ1 : gJ} (h : C_X12_keep_28 N rec_28 σ τ x1 x2 = some (r, σ1, τ1)) : (∀ c k : Nat, ¬ (c = 231 ∨ c = 232 ∨ (c = 199 ∧ (k = 0))) → σ1 c k = σ c k) ∧ (∀ c k : Nat, τ1 c k = τ c k) := by
  unfold C_X12_keep_28 at h
  by_cases c_1 : 45 ≤ x2
  · rw [if_pos c_1] at h
    obtain ⟨rfl, rfl, rfl⟩ := sm_inj h
    refine ⟨fun c k hn => ?_, fun c k => ?_⟩
    · rfl
    · rfl
  · rw [if_neg c_1] at h
    obtain ⟨j_2, -, -, h⟩ := ck_some h
    obtain ⟨j_3, -, -, h⟩ := ck_some h
    obtain ⟨σ_4, e_4, h⟩ := nm_some h
    obtain ⟨v_5, e_5, h⟩ := nm_some h
    have f9 := hrec_28 σ_4 τ x1 v_5 _ _ _ h
    refine ⟨fun c k hn => (f9.1 c k hn).trans ?_, fun c k => (f9.2 c k).trans ?_⟩
    · rw [e_4, up2_ne (by omega)]
    · rfl
theorem fr_H_X12_keep_28 (N : Nat) : ∀ (n : Nat) (σ : gI) (τ : gJ) (x1 : Int32) (x2 : Int32) (r : Int32) (σ1 : gI) (τ1 : gJ), H_X12_keep_28 N n σ τ x1 x2 = some (r, σ1, τ1) → (∀ c k : Nat, ¬ (c = 231 ∨ c = 232 ∨ (c = 199 ∧ (k = 0))) → σ1 c k = σ c k) ∧ (∀ c k : Nat, τ1 c k = τ c k) := by
  intro n
  induction n with
  | zero => intro σ τ x1 x2 r σ1 τ1 h; cases h
  | succ n ih =>
    intro σ τ x1 x2 r σ1 τ1 h
    exact fr_C_X12_keep_28 N (H_X12_keep_28 N n) ih σ τ x1 x2 h
set_option maxHeartbeats 2000000 in
theorem fr_B_X12_keep_0 (N : Nat) (σ : gI) (τ : gJ) (x1 : Int32) {r : Int32} {σ1 : gI} {τ1 : gJ} (h : B_X12_keep_0 N σ τ x1 = some (r, σ1, τ1)) : (∀ c k : Nat, ¬ (c = 231 ∨ c = 232 ∨ (c = 199 ∧ (k = 0))) → σ1 c k = σ c k) ∧ (∀ c k : Nat, τ1 c k = τ c k) := by
  unfold B_X12_keep_0 at h
  obtain ⟨σ_1, e_1, h⟩ := nm_some h
  obtain ⟨r_2, σ_2, τ_2, q_2, h⟩ := bd_some h
  have f_2 := fr_B_X12_in_0 N σ_1 τ x1.toInt64 0 2 q_2
  by_cases c_1 : r_2 = 0
  · rw [if_pos c_1] at h
    obtain ⟨rfl, rfl, rfl⟩ := sm_inj h
    refine ⟨fun c k hn => ?_, fun c k => ?_⟩
    · rw [f_2.1 c k id, e_1, up2_ne (by omega)]
    · rw [f_2.2 c k]
  · rw [if_neg c_1] at h
    obtain ⟨j_4, -, -, h⟩ := ck_some h
    obtain ⟨σ_5, e_5, h⟩ := nm_some h
    have f9 := fr_H_X12_keep_28 N N σ_5 τ_2 x1 0 _ _ _ h
    refine ⟨fun c k hn => (f9.1 c k hn).trans ?_, fun c k => (f9.2 c k).trans ?_⟩
    · rw [e_5, up2_ne (by omega), f_2.1 c k id, e_1, up2_ne (by omega)]
    · rw [f_2.2 c k]
set_option maxHeartbeats 2000000 in
theorem fr_B_X12_laysFits_88 (N : Nat) (rec_9 : gI → gJ → Int32 → Int32 → Int32 → Option (Int32 × gI × gJ)) (hrec_9 : ∀ (σ : gI) (τ : gJ) (x1 : Int32) (x2 : Int32) (x3 : Int32) (r : Int32) (σ1 : gI) (τ1 : gJ), rec_9 σ τ x1 x2 x3 = some (r, σ1, τ1) → (∀ c k : Nat, ¬ (c = 218 ∨ c = 224 ∨ c = 229 ∨ (c = 199 ∧ (k = 34 ∨ k = 45 ∨ k = 46))) → σ1 c k = σ c k) ∧ (∀ c k : Nat, τ1 c k = τ c k)) (σ : gI) (τ : gJ) (x1 : Int32) (x2 : Int32) (x3 : Int32) (x4 : Int32) {r : Int32} {σ1 : gI} {τ1 : gJ} (h : B_X12_laysFits_88 N rec_9 σ τ x1 x2 x3 x4 = some (r, σ1, τ1)) : (∀ c k : Nat, ¬ (c = 218 ∨ c = 224 ∨ c = 229 ∨ (c = 199 ∧ (k = 34 ∨ k = 45 ∨ k = 46))) → σ1 c k = σ c k) ∧ (∀ c k : Nat, τ1 c k = τ c k) := by
  unfold B_X12_laysFits_88 at h
  obtain ⟨j_1, -, -, h⟩ := ck_some h
  obtain ⟨-, h⟩ := cb_some h
  obtain ⟨σ_3, e_3, h⟩ := nm_some h
  obtain ⟨r_4, σ_4, τ_4, q_4, h⟩ := bd_some h
  have f_4 := fr_B_X12_flag_0 N σ_3 τ x4 q_4
  obtain ⟨v_5, e_5, h⟩ := nm_some h
  obtain ⟨v_6, e_6, h⟩ := nm_some h
  have f9 := hrec_9 σ_4 τ_4 x1 v_5 v_6 _ _ _ h
  refine ⟨fun c k hn => (f9.1 c k hn).trans ?_, fun c k => (f9.2 c k).trans ?_⟩
  · rw [f_4.1 c k id, e_3, up2_ne (by omega)]
  · rw [f_4.2 c k]
set_option maxHeartbeats 2000000 in
theorem fr_C_X12_laysFits_32 (N : Nat) (rec_9 : gI → gJ → Int32 → Int32 → Int32 → Option (Int32 × gI × gJ)) (hrec_9 : ∀ (σ : gI) (τ : gJ) (x1 : Int32) (x2 : Int32) (x3 : Int32) (r : Int32) (σ1 : gI) (τ1 : gJ), rec_9 σ τ x1 x2 x3 = some (r, σ1, τ1) → (∀ c k : Nat, ¬ (c = 218 ∨ c = 224 ∨ c = 229 ∨ (c = 199 ∧ (k = 34 ∨ k = 45 ∨ k = 46))) → σ1 c k = σ c k) ∧ (∀ c k : Nat, τ1 c k = τ c k)) (rec_32 : gI → gJ → Int32 → Int32 → Int32 → Int32 → Int32 → Option (Int32 × gI × gJ)) (hrec_32 : ∀ (σ : gI) (τ : gJ) (x1 : Int32) (x2 : Int32) (x3 : Int32) (x4 : Int32) (x5 : Int32) (r : Int32) (σ1 : gI) (τ1 : gJ), rec_32 σ τ x1 x2 x3 x4 x5 = some (r, σ1, τ1) → (∀ c k : Nat, ¬ (c = 218 ∨ c = 224 ∨ c = 229 ∨ (c = 199 ∧ (k = 34 ∨ k = 45 ∨ k = 46))) → σ1 c k = σ c k) ∧ (∀ c k : Nat, τ1 c k = τ c k)) (σ : gI) (τ : gJ) (x1 : Int32) (x2 : Int32) (x3 : Int32) (x4 : Int32) (x5 : Int32) {r : Int32} {σ1 : gI} {τ1 : gJ} (h : C_X12_laysFits_32 N rec_9 rec_32 σ τ x1 x2 x3 x4 x5 = some (r, σ1, τ1)) : (∀ c k : Nat, ¬ (c = 218 ∨ c = 224 ∨ c = 229 ∨ (c = 199 ∧ (k = 34 ∨ k = 45 ∨ k = 46))) → σ1 c k = σ c k) ∧ (∀ c k : Nat, τ1 c k = τ c k) := by
  unfold C_X12_laysFits_32 at h
  by_cases c_1 : σ 199 52 ≤ x5
  · rw [if_pos c_1] at h
    have f9 := fr_B_X12_laysFits_88 N rec_9 hrec_9 σ τ x1 x2 x3 x4 h
    refine ⟨fun c k hn => (f9.1 c k hn).trans ?_, fun c k => (f9.2 c k).trans ?_⟩
    · rfl
    · rfl
  · rw [if_neg c_1] at h
    by_cases c_2 : x4 = 0
    · rw [if_pos c_2] at h
      have f9 := fr_B_X12_laysFits_88 N rec_9 hrec_9 σ τ x1 x2 x3 x4 h
      refine ⟨fun c k hn => (f9.1 c k hn).trans ?_, fun c k => (f9.2 c k).trans ?_⟩
      · rfl
      · rfl
    · rw [if_neg c_2] at h
      obtain ⟨j_3, -, -, h⟩ := ck_some h
      obtain ⟨r_4, σ_4, τ_4, q_4, h⟩ := bd_some h
      have f_4 := fr_B_X12_floatsTo_0 N σ τ (σ 226 j_3) (σ 227 j_3) x3 q_4
      by_cases c_3 : r_4 = σ_4 228 j_3
      · rw [if_pos c_3] at h
        obtain ⟨v_7, e_7, h⟩ := nm_some h
        have f9 := hrec_32 σ_4 τ_4 x1 x2 x3 1 v_7 _ _ _ h
        refine ⟨fun c k hn => (f9.1 c k hn).trans ?_, fun c k => (f9.2 c k).trans ?_⟩
        · rw [f_4.1 c k (by omega)]
        · rw [f_4.2 c k]
      · rw [if_neg c_3] at h
        obtain ⟨v_6, e_6, h⟩ := nm_some h
        have f9 := hrec_32 σ_4 τ_4 x1 x2 x3 0 v_6 _ _ _ h
        refine ⟨fun c k hn => (f9.1 c k hn).trans ?_, fun c k => (f9.2 c k).trans ?_⟩
        · rw [f_4.1 c k (by omega)]
        · rw [f_4.2 c k]
theorem fr_H_X12_laysFits_32 (N : Nat) (rec_9 : gI → gJ → Int32 → Int32 → Int32 → Option (Int32 × gI × gJ)) (hrec_9 : ∀ (σ : gI) (τ : gJ) (x1 : Int32) (x2 : Int32) (x3 : Int32) (r : Int32) (σ1 : gI) (τ1 : gJ), rec_9 σ τ x1 x2 x3 = some (r, σ1, τ1) → (∀ c k : Nat, ¬ (c = 218 ∨ c = 224 ∨ c = 229 ∨ (c = 199 ∧ (k = 34 ∨ k = 45 ∨ k = 46))) → σ1 c k = σ c k) ∧ (∀ c k : Nat, τ1 c k = τ c k)) : ∀ (n : Nat) (σ : gI) (τ : gJ) (x1 : Int32) (x2 : Int32) (x3 : Int32) (x4 : Int32) (x5 : Int32) (r : Int32) (σ1 : gI) (τ1 : gJ), H_X12_laysFits_32 N rec_9 n σ τ x1 x2 x3 x4 x5 = some (r, σ1, τ1) → (∀ c k : Nat, ¬ (c = 218 ∨ c = 224 ∨ c = 229 ∨ (c = 199 ∧ (k = 34 ∨ k = 45 ∨ k = 46))) → σ1 c k = σ c k) ∧ (∀ c k : Nat, τ1 c k = τ c k) := by
  intro n
  induction n with
  | zero => intro σ τ x1 x2 x3 x4 x5 r σ1 τ1 h; cases h
  | succ n ih =>
    intro σ τ x1 x2 x3 x4 x5 r σ1 τ1 h
    exact fr_C_X12_laysFits_32 N rec_9 hrec_9 (H_X12_laysFits_32 N rec_9 n) ih σ τ x1 x2 x3 x4 x5 h
set_option maxHeartbeats 2000000 in
theorem fr_C_X12_laysFits_9 (N : Nat) (rec_9 : gI → gJ → Int32 → Int32 → Int32 → Option (Int32 × gI × gJ)) (hrec_9 : ∀ (σ : gI) (τ : gJ) (x1 : Int32) (x2 : Int32) (x3 : Int32) (r : Int32) (σ1 : gI) (τ1 : gJ), rec_9 σ τ x1 x2 x3 = some (r, σ1, τ1) → (∀ c k : Nat, ¬ (c = 218 ∨ c = 224 ∨ c = 229 ∨ (c = 199 ∧ (k = 34 ∨ k = 45 ∨ k = 46))) → σ1 c k = σ c k) ∧ (∀ c k : Nat, τ1 c k = τ c k)) (σ : gI) (τ : gJ) (x1 : Int32) (x2 : Int32) (x3 : Int32) {r : Int32} {σ1 : gI} {τ1 : gJ} (h : C_X12_laysFits_9 N rec_9 σ τ x1 x2 x3 = some (r, σ1, τ1)) : (∀ c k : Nat, ¬ (c = 218 ∨ c = 224 ∨ c = 229 ∨ (c = 199 ∧ (k = 34 ∨ k = 45 ∨ k = 46))) → σ1 c k = σ c k) ∧ (∀ c k : Nat, τ1 c k = τ c k) := by
  unfold C_X12_laysFits_9 at h
  by_cases c_1 : x1 < x3
  · rw [if_pos c_1] at h
    obtain ⟨rfl, rfl, rfl⟩ := sm_inj h
    refine ⟨fun c k hn => ?_, fun c k => ?_⟩
    · rfl
    · rfl
  · rw [if_neg c_1] at h
    by_cases c_2 : x3 &&& (x1 ^^^ (-1)) = 0
    · rw [if_pos c_2] at h
      have f9 := fr_H_X12_laysFits_32 N rec_9 hrec_9 N σ τ x1 x2 x3 1 0 _ _ _ h
      refine ⟨fun c k hn => (f9.1 c k hn).trans ?_, fun c k => (f9.2 c k).trans ?_⟩
      · rfl
      · rfl
    · rw [if_neg c_2] at h
      have f9 := fr_H_X12_laysFits_32 N rec_9 hrec_9 N σ τ x1 x2 x3 0 0 _ _ _ h
      refine ⟨fun c k hn => (f9.1 c k hn).trans ?_, fun c k => (f9.2 c k).trans ?_⟩
      · rfl
      · rfl
theorem fr_H_X12_laysFits_9 (N : Nat) : ∀ (n : Nat) (σ : gI) (τ : gJ) (x1 : Int32) (x2 : Int32) (x3 : Int32) (r : Int32) (σ1 : gI) (τ1 : gJ), H_X12_laysFits_9 N n σ τ x1 x2 x3 = some (r, σ1, τ1) → (∀ c k : Nat, ¬ (c = 218 ∨ c = 224 ∨ c = 229 ∨ (c = 199 ∧ (k = 34 ∨ k = 45 ∨ k = 46))) → σ1 c k = σ c k) ∧ (∀ c k : Nat, τ1 c k = τ c k) := by
  intro n
  induction n with
  | zero => intro σ τ x1 x2 x3 r σ1 τ1 h; cases h
  | succ n ih =>
    intro σ τ x1 x2 x3 r σ1 τ1 h
    exact fr_C_X12_laysFits_9 N (H_X12_laysFits_9 N n) ih σ τ x1 x2 x3 h
set_option maxHeartbeats 2000000 in
theorem fr_B_X12_laysFits_0 (N : Nat) (σ : gI) (τ : gJ) {r : Int32} {σ1 : gI} {τ1 : gJ} (h : B_X12_laysFits_0 N σ τ = some (r, σ1, τ1)) : (∀ c k : Nat, ¬ (c = 218 ∨ c = 224 ∨ c = 229 ∨ (c = 199 ∧ (k = 34 ∨ k = 45 ∨ k = 46))) → σ1 c k = σ c k) ∧ (∀ c k : Nat, τ1 c k = τ c k) := by
  unfold B_X12_laysFits_0 at h
  obtain ⟨r_1, σ_1, τ_1, q_1, h⟩ := bd_some h
  have f_1 := fr_B_X12_forks_0 N σ τ q_1
  have f9 := fr_H_X12_laysFits_9 N N σ_1 τ_1 r_1 0 0 _ _ _ h
  refine ⟨fun c k hn => (f9.1 c k hn).trans ?_, fun c k => (f9.2 c k).trans ?_⟩
  · rw [f_1.1 c k id]
  · rw [f_1.2 c k]
set_option maxHeartbeats 2000000 in
theorem fr_B_J6_numberOfTrailingZeros_0f7a4_49 (N : Nat) (σ : gI) (τ : gJ) (x0 : Int32) (x1 : Int32) {r : Int32} {σ1 : gI} {τ1 : gJ} (h : B_J6_numberOfTrailingZeros_0f7a4_49 N σ τ x0 x1 = some (r, σ1, τ1)) : (∀ c k : Nat, ¬ (False) → σ1 c k = σ c k) ∧ (∀ c k : Nat, τ1 c k = τ c k) := by
  unfold B_J6_numberOfTrailingZeros_0f7a4_49 at h
  by_cases c_1 : x0 ≤ 16
  · rw [if_pos c_1] at h
    by_cases c_2 : x0 ≤ 4
    · rw [if_pos c_2] at h
      obtain ⟨rfl, rfl, rfl⟩ := sm_inj h
      refine ⟨fun c k hn => ?_, fun c k => ?_⟩
      · rfl
      · rfl
    · rw [if_neg c_2] at h
      obtain ⟨v_3, e_3, h⟩ := nm_some h
      obtain ⟨v_4, e_4, h⟩ := nm_some h
      obtain ⟨rfl, rfl, rfl⟩ := sm_inj h
      refine ⟨fun c k hn => ?_, fun c k => ?_⟩
      · rfl
      · rfl
  · rw [if_neg c_1] at h
    obtain ⟨v_5, e_5, h⟩ := nm_some h
    obtain ⟨v_6, e_6, h⟩ := nm_some h
    by_cases c_3 : v_6 ≤ 4
    · rw [if_pos c_3] at h
      obtain ⟨rfl, rfl, rfl⟩ := sm_inj h
      refine ⟨fun c k hn => ?_, fun c k => ?_⟩
      · rfl
      · rfl
    · rw [if_neg c_3] at h
      obtain ⟨v_8, e_8, h⟩ := nm_some h
      obtain ⟨v_9, e_9, h⟩ := nm_some h
      obtain ⟨rfl, rfl, rfl⟩ := sm_inj h
      refine ⟨fun c k hn => ?_, fun c k => ?_⟩
      · rfl
      · rfl
set_option maxHeartbeats 2000000 in
theorem fr_B_J6_numberOfTrailingZeros_0f7a4_0 (N : Nat) (σ : gI) (τ : gJ) (x0 : Int32) {r : Int32} {σ1 : gI} {τ1 : gJ} (h : B_J6_numberOfTrailingZeros_0f7a4_0 N σ τ x0 = some (r, σ1, τ1)) : (∀ c k : Nat, ¬ (False) → σ1 c k = σ c k) ∧ (∀ c k : Nat, τ1 c k = τ c k) := by
  unfold B_J6_numberOfTrailingZeros_0f7a4_0 at h
  obtain ⟨v_1, e_1, h⟩ := nm_some h
  by_cases c_1 : 0 < v_1
  · rw [if_pos c_1] at h
    by_cases c_2 : v_1 ≤ 65536
    · rw [if_pos c_2] at h
      by_cases c_3 : v_1 ≤ 256
      · rw [if_pos c_3] at h
        have f9 := fr_B_J6_numberOfTrailingZeros_0f7a4_49 N σ τ v_1 1 h
        refine ⟨fun c k hn => (f9.1 c k hn).trans ?_, fun c k => (f9.2 c k).trans ?_⟩
        · rfl
        · rfl
      · rw [if_neg c_3] at h
        obtain ⟨v_5, e_5, h⟩ := nm_some h
        have f9 := fr_B_J6_numberOfTrailingZeros_0f7a4_49 N σ τ v_5 9 h
        refine ⟨fun c k hn => (f9.1 c k hn).trans ?_, fun c k => (f9.2 c k).trans ?_⟩
        · rfl
        · rfl
    · rw [if_neg c_2] at h
      obtain ⟨v_6, e_6, h⟩ := nm_some h
      by_cases c_4 : v_6 ≤ 256
      · rw [if_pos c_4] at h
        have f9 := fr_B_J6_numberOfTrailingZeros_0f7a4_49 N σ τ v_6 17 h
        refine ⟨fun c k hn => (f9.1 c k hn).trans ?_, fun c k => (f9.2 c k).trans ?_⟩
        · rfl
        · rfl
      · rw [if_neg c_4] at h
        obtain ⟨v_8, e_8, h⟩ := nm_some h
        have f9 := fr_B_J6_numberOfTrailingZeros_0f7a4_49 N σ τ v_8 25 h
        refine ⟨fun c k hn => (f9.1 c k hn).trans ?_, fun c k => (f9.2 c k).trans ?_⟩
        · rfl
        · rfl
  · rw [if_neg c_1] at h
    obtain ⟨rfl, rfl, rfl⟩ := sm_inj h
    refine ⟨fun c k hn => ?_, fun c k => ?_⟩
    · rfl
    · rfl
set_option maxHeartbeats 2000000 in
theorem fr_C_X12_lost_41 (N : Nat) (rec_41 : gI → gJ → Int32 → Int32 → Int32 → Option (Int32 × gI × gJ)) (hrec_41 : ∀ (σ : gI) (τ : gJ) (x1 : Int32) (x2 : Int32) (x3 : Int32) (r : Int32) (σ1 : gI) (τ1 : gJ), rec_41 σ τ x1 x2 x3 = some (r, σ1, τ1) → (∀ c k : Nat, ¬ (c = 207 ∨ c = 218 ∨ (c = 199 ∧ (k = 0 ∨ k = 1 ∨ k = 34))) → σ1 c k = σ c k) ∧ (∀ c k : Nat, c ≠ 200 → τ1 c k = τ c k)) (σ : gI) (τ : gJ) (x1 : Int32) (x2 : Int32) (x3 : Int32) {r : Int32} {σ1 : gI} {τ1 : gJ} (h : C_X12_lost_41 N rec_41 σ τ x1 x2 x3 = some (r, σ1, τ1)) : (∀ c k : Nat, ¬ (c = 207 ∨ c = 218 ∨ (c = 199 ∧ (k = 0 ∨ k = 1 ∨ k = 34))) → σ1 c k = σ c k) ∧ (∀ c k : Nat, c ≠ 200 → τ1 c k = τ c k) := by
  unfold C_X12_lost_41 at h
  by_cases c_1 : x1 < x3
  · rw [if_pos c_1] at h
    obtain ⟨rfl, rfl, rfl⟩ := sm_inj h
    refine ⟨fun c k hn => ?_, fun c k hn => ?_⟩
    · rfl
    · rfl
  · rw [if_neg c_1] at h
    obtain ⟨r_2, σ_2, τ_2, q_2, h⟩ := bd_some h
    have f_2 := fr_B_X12_minuteGoes_0 N 207 σ τ q_2
    obtain ⟨r_3, σ_3, τ_3, q_3, h⟩ := bd_some h
    have f_3 := fr_B_X12_thoseHow_0 N 207 σ_2 τ_2 2 q_3
    obtain ⟨v_4, e_4, h⟩ := nm_some h
    by_cases c_2 : v_4 = 0
    · rw [if_pos c_2] at h
      obtain ⟨v_6, e_6, h⟩ := nm_some h
      have f9 := hrec_41 σ_3 τ_3 x1 x2 v_6 _ _ _ h
      refine ⟨fun c k hn => (f9.1 c k hn).trans ?_, fun c k hn => (f9.2 c k hn).trans ?_⟩
      · rw [f_3.1 c k id, f_2.1 c k (by omega)]
      · rw [f_3.2 c k, f_2.2 c k]
    · rw [if_neg c_2] at h
      obtain ⟨r_7, σ_7, τ_7, q_7, h⟩ := bd_some h
      have f_7 := fr_B_J6_numberOfTrailingZeros_0f7a4_0 N σ_3 τ_3 v_4 q_7
      obtain ⟨σ_8, e_8, h⟩ := nm_some h
      obtain ⟨r_9, σ_9, τ_9, q_9, h⟩ := bd_some h
      have f_9 := fr_B_X12_enters_0 N σ_8 τ_7 x3.toInt64 q_9
      obtain ⟨j_10, -, -, h⟩ := ck_some h
      obtain ⟨r_11, σ_11, τ_11, q_11, h⟩ := bd_some h
      have f_11 := fr_B_X12_enters_0 N σ_9 τ_9 ((σ_9 207 j_10).toInt64) q_11
      obtain ⟨rfl, rfl, rfl⟩ := sm_inj h
      refine ⟨fun c k hn => ?_, fun c k hn => ?_⟩
      · rw [f_11.1 c k (by omega), f_9.1 c k (by omega), e_8, up2_ne (by omega), f_7.1 c k id, f_3.1 c k id, f_2.1 c k (by omega)]
      · rw [f_11.2 c k hn, f_9.2 c k hn, f_7.2 c k, f_3.2 c k, f_2.2 c k]
theorem fr_H_X12_lost_41 (N : Nat) : ∀ (n : Nat) (σ : gI) (τ : gJ) (x1 : Int32) (x2 : Int32) (x3 : Int32) (r : Int32) (σ1 : gI) (τ1 : gJ), H_X12_lost_41 N n σ τ x1 x2 x3 = some (r, σ1, τ1) → (∀ c k : Nat, ¬ (c = 207 ∨ c = 218 ∨ (c = 199 ∧ (k = 0 ∨ k = 1 ∨ k = 34))) → σ1 c k = σ c k) ∧ (∀ c k : Nat, c ≠ 200 → τ1 c k = τ c k) := by
  intro n
  induction n with
  | zero => intro σ τ x1 x2 x3 r σ1 τ1 h; cases h
  | succ n ih =>
    intro σ τ x1 x2 x3 r σ1 τ1 h
    exact fr_C_X12_lost_41 N (H_X12_lost_41 N n) ih σ τ x1 x2 x3 h
set_option maxHeartbeats 2000000 in
theorem fr_B_X12_lost_0 (N : Nat) (σ : gI) (τ : gJ) (x1 : Int32) {r : Int32} {σ1 : gI} {τ1 : gJ} (h : B_X12_lost_0 N σ τ x1 = some (r, σ1, τ1)) : (∀ c k : Nat, ¬ (c = 207 ∨ c = 218 ∨ (c = 199 ∧ (k = 0 ∨ k = 1 ∨ k = 34))) → σ1 c k = σ c k) ∧ (∀ c k : Nat, c ≠ 200 → τ1 c k = τ c k) := by
  unfold B_X12_lost_0 at h
  obtain ⟨σ_1, e_1, h⟩ := nm_some h
  obtain ⟨r_2, σ_2, τ_2, q_2, h⟩ := bd_some h
  have f_2 := fr_B_X12_in_0 N σ_1 τ x1.toInt64 0 300 q_2
  by_cases c_1 : r_2 = 0
  · rw [if_pos c_1] at h
    obtain ⟨rfl, rfl, rfl⟩ := sm_inj h
    refine ⟨fun c k hn => ?_, fun c k hn => ?_⟩
    · rw [f_2.1 c k id, e_1, up2_ne (by omega)]
    · rw [f_2.2 c k]
  · rw [if_neg c_1] at h
    obtain ⟨r_4, σ_4, τ_4, q_4, h⟩ := bd_some h
    have f_4 := fr_B_X12_puts_0 N σ_2 τ_2 q_4
    obtain ⟨r_5, σ_5, τ_5, q_5, h⟩ := bd_some h
    have f_5 := fr_B_X12_thoseHow_0 N 207 σ_4 τ_4 2 q_5
    have f9 := fr_H_X12_lost_41 N N σ_5 τ_5 x1 r_5 1 _ _ _ h
    refine ⟨fun c k hn => (f9.1 c k hn).trans ?_, fun c k hn => (f9.2 c k hn).trans ?_⟩
    · rw [f_5.1 c k id, f_4.1 c k (by omega), f_2.1 c k id, e_1, up2_ne (by omega)]
    · rw [f_5.2 c k, f_4.2 c k, f_2.2 c k]
set_option maxHeartbeats 2000000 in
theorem fr_C_X12_maps_34 (N : Nat) (rec_34 : gI → gJ → Int32 → Int32 → Int32 → Int32 → Int32 → Int32 → Option (Int32 × gI × gJ)) (hrec_34 : ∀ (σ : gI) (τ : gJ) (x1 : Int32) (x2 : Int32) (x3 : Int32) (x4 : Int32) (x5 : Int32) (x6 : Int32) (r : Int32) (σ1 : gI) (τ1 : gJ), rec_34 σ τ x1 x2 x3 x4 x5 x6 = some (r, σ1, τ1) → (∀ c k : Nat, ¬ (c = 218 ∨ c = 224 ∨ c = 229 ∨ (c = 199 ∧ (k = 0 ∨ k = 1 ∨ k = 34 ∨ k = 45 ∨ k = 46))) → σ1 c k = σ c k) ∧ (∀ c k : Nat, c ≠ 200 → τ1 c k = τ c k)) (σ : gI) (τ : gJ) (x1 : Int32) (x2 : Int32) (x3 : Int32) (x4 : Int32) (x5 : Int32) (x6 : Int32) {r : Int32} {σ1 : gI} {τ1 : gJ} (h : C_X12_maps_34 N rec_34 σ τ x1 x2 x3 x4 x5 x6 = some (r, σ1, τ1)) : (∀ c k : Nat, ¬ (c = 218 ∨ c = 224 ∨ c = 229 ∨ (c = 199 ∧ (k = 0 ∨ k = 1 ∨ k = 34 ∨ k = 45 ∨ k = 46))) → σ1 c k = σ c k) ∧ (∀ c k : Nat, c ≠ 200 → τ1 c k = τ c k) := by
  unfold C_X12_maps_34 at h
  by_cases c_1 : x2 < x6
  · rw [if_pos c_1] at h
    obtain ⟨σ_2, e_2, h⟩ := nm_some h
    obtain ⟨r_3, σ_3, τ_3, q_3, h⟩ := bd_some h
    have f_3 := fr_B_X12_enters_0 N σ_2 τ x3.toInt64 q_3
    obtain ⟨r_4, σ_4, τ_4, q_4, h⟩ := bd_some h
    have f_4 := fr_B_X12_enters_0 N σ_3 τ_3 x4.toInt64 q_4
    by_cases c_2 : x1 ≤ 0
    · rw [if_pos c_2] at h
      obtain ⟨r_6, σ_6, τ_6, q_6, h⟩ := bd_some h
      have f_6 := fr_B_X12_enters_0 N σ_4 τ_4 0 q_6
      obtain ⟨rfl, rfl, rfl⟩ := sm_inj h
      refine ⟨fun c k hn => ?_, fun c k hn => ?_⟩
      · rw [f_6.1 c k (by omega), f_4.1 c k (by omega), f_3.1 c k (by omega), e_2, up2_ne (by omega)]
      · rw [f_6.2 c k hn, f_4.2 c k hn, f_3.2 c k hn]
    · rw [if_neg c_2] at h
      obtain ⟨r_7, σ_7, τ_7, q_7, h⟩ := bd_some h
      have f_7 := fr_B_X12_enters_0 N σ_4 τ_4 ((x2 &&& (x5 ^^^ (-1))).toInt64) q_7
      obtain ⟨rfl, rfl, rfl⟩ := sm_inj h
      refine ⟨fun c k hn => ?_, fun c k hn => ?_⟩
      · rw [f_7.1 c k (by omega), f_4.1 c k (by omega), f_3.1 c k (by omega), e_2, up2_ne (by omega)]
      · rw [f_7.2 c k hn, f_4.2 c k hn, f_3.2 c k hn]
  · rw [if_neg c_1] at h
    obtain ⟨j_8, -, -, h⟩ := ck_some h
    by_cases c_3 : σ 229 j_8 = 0
    · rw [if_pos c_3] at h
      obtain ⟨v_10, e_10, h⟩ := nm_some h
      have f9 := hrec_34 σ τ x1 x2 x3 x4 x5 v_10 _ _ _ h
      refine ⟨fun c k hn => (f9.1 c k hn).trans ?_, fun c k hn => (f9.2 c k hn).trans ?_⟩
      · rfl
      · rfl
    · rw [if_neg c_3] at h
      by_cases c_4 : 0 ≤ x3
      · rw [if_pos c_4] at h
        obtain ⟨v_12, e_12, h⟩ := nm_some h
        obtain ⟨v_13, e_13, h⟩ := nm_some h
        obtain ⟨v_14, e_14, h⟩ := nm_some h
        have f9 := hrec_34 σ τ x1 x2 x3 v_12 v_13 v_14 _ _ _ h
        refine ⟨fun c k hn => (f9.1 c k hn).trans ?_, fun c k hn => (f9.2 c k hn).trans ?_⟩
        · rfl
        · rfl
      · rw [if_neg c_4] at h
        obtain ⟨v_15, e_15, h⟩ := nm_some h
        obtain ⟨v_16, e_16, h⟩ := nm_some h
        obtain ⟨v_17, e_17, h⟩ := nm_some h
        have f9 := hrec_34 σ τ x1 x2 x6 v_15 v_16 v_17 _ _ _ h
        refine ⟨fun c k hn => (f9.1 c k hn).trans ?_, fun c k hn => (f9.2 c k hn).trans ?_⟩
        · rfl
        · rfl
theorem fr_H_X12_maps_34 (N : Nat) : ∀ (n : Nat) (σ : gI) (τ : gJ) (x1 : Int32) (x2 : Int32) (x3 : Int32) (x4 : Int32) (x5 : Int32) (x6 : Int32) (r : Int32) (σ1 : gI) (τ1 : gJ), H_X12_maps_34 N n σ τ x1 x2 x3 x4 x5 x6 = some (r, σ1, τ1) → (∀ c k : Nat, ¬ (c = 218 ∨ c = 224 ∨ c = 229 ∨ (c = 199 ∧ (k = 0 ∨ k = 1 ∨ k = 34 ∨ k = 45 ∨ k = 46))) → σ1 c k = σ c k) ∧ (∀ c k : Nat, c ≠ 200 → τ1 c k = τ c k) := by
  intro n
  induction n with
  | zero => intro σ τ x1 x2 x3 x4 x5 x6 r σ1 τ1 h; cases h
  | succ n ih =>
    intro σ τ x1 x2 x3 x4 x5 x6 r σ1 τ1 h
    exact fr_C_X12_maps_34 N (H_X12_maps_34 N n) ih σ τ x1 x2 x3 x4 x5 x6 h
set_option maxHeartbeats 2000000 in
theorem fr_B_X12_maps_0 (N : Nat) (σ : gI) (τ : gJ) {r : Int32} {σ1 : gI} {τ1 : gJ} (h : B_X12_maps_0 N σ τ = some (r, σ1, τ1)) : (∀ c k : Nat, ¬ (c = 218 ∨ c = 224 ∨ c = 229 ∨ (c = 199 ∧ (k = 0 ∨ k = 1 ∨ k = 34 ∨ k = 45 ∨ k = 46))) → σ1 c k = σ c k) ∧ (∀ c k : Nat, c ≠ 200 → τ1 c k = τ c k) := by
  unfold B_X12_maps_0 at h
  obtain ⟨σ_1, e_1, h⟩ := nm_some h
  obtain ⟨r_2, σ_2, τ_2, q_2, h⟩ := bd_some h
  have f_2 := fr_B_X12_laysFits_0 N σ_1 τ q_2
  obtain ⟨r_3, σ_3, τ_3, q_3, h⟩ := bd_some h
  have f_3 := fr_B_X12_forks_0 N σ_2 τ_2 q_3
  by_cases c_1 : r_2 ≤ 0
  · rw [if_pos c_1] at h
    have f9 := fr_H_X12_maps_34 N N σ_3 τ_3 r_2 r_3 (-1) 0 0 0 _ _ _ h
    refine ⟨fun c k hn => (f9.1 c k hn).trans ?_, fun c k hn => (f9.2 c k hn).trans ?_⟩
    · rw [f_3.1 c k id, f_2.1 c k (by omega), e_1, up2_ne (by omega)]
    · rw [f_3.2 c k, f_2.2 c k]
  · rw [if_neg c_1] at h
    have f9 := fr_H_X12_maps_34 N N σ_3 τ_3 r_2 r_3 (-1) r_3 0 0 _ _ _ h
    refine ⟨fun c k hn => (f9.1 c k hn).trans ?_, fun c k hn => (f9.2 c k hn).trans ?_⟩
    · rw [f_3.1 c k id, f_2.1 c k (by omega), e_1, up2_ne (by omega)]
    · rw [f_3.2 c k, f_2.2 c k]
set_option maxHeartbeats 2000000 in
theorem fr_B_X12_marks_126 (N : Nat) (rec_62 : gI → gJ → Int32 → Int32 → Int32 → Int32 → Int32 → Int32 → Int32 → Int32 → Option (Int32 × gI × gJ)) (hrec_62 : ∀ (σ : gI) (τ : gJ) (x1 : Int32) (x2 : Int32) (x3 : Int32) (x4 : Int32) (x5 : Int32) (x6 : Int32) (x7 : Int32) (x8 : Int32) (r : Int32) (σ1 : gI) (τ1 : gJ), rec_62 σ τ x1 x2 x3 x4 x5 x6 x7 x8 = some (r, σ1, τ1) → (∀ c k : Nat, ¬ (c = 218 ∨ c = 224 ∨ (c = 199 ∧ (k = 0 ∨ k = 1 ∨ k = 34 ∨ k = 45 ∨ k = 46))) → σ1 c k = σ c k) ∧ (∀ c k : Nat, c ≠ 200 → τ1 c k = τ c k)) (rec_74 : gI → gJ → Int32 → Int32 → Int32 → Int32 → Int32 → Int32 → Int32 → Int32 → Int32 → Option (Int32 × gI × gJ)) (hrec_74 : ∀ (σ : gI) (τ : gJ) (x1 : Int32) (x2 : Int32) (x3 : Int32) (x4 : Int32) (x5 : Int32) (x6 : Int32) (x7 : Int32) (x8 : Int32) (x9 : Int32) (r : Int32) (σ1 : gI) (τ1 : gJ), rec_74 σ τ x1 x2 x3 x4 x5 x6 x7 x8 x9 = some (r, σ1, τ1) → (∀ c k : Nat, ¬ (c = 218 ∨ c = 224 ∨ (c = 199 ∧ (k = 0 ∨ k = 1 ∨ k = 34 ∨ k = 45 ∨ k = 46))) → σ1 c k = σ c k) ∧ (∀ c k : Nat, c ≠ 200 → τ1 c k = τ c k)) (σ : gI) (τ : gJ) (x1 : Int32) (x2 : Int32) (x3 : Int32) (x4 : Int32) (x5 : Int32) (x7 : Int32) (x8 : Int32) (x9 : Int32) (y0 : Int32) {r : Int32} {σ1 : gI} {τ1 : gJ} (h : B_X12_marks_126 N rec_62 rec_74 σ τ x1 x2 x3 x4 x5 x7 x8 x9 y0 = some (r, σ1, τ1)) : (∀ c k : Nat, ¬ (c = 218 ∨ c = 224 ∨ (c = 199 ∧ (k = 0 ∨ k = 1 ∨ k = 34 ∨ k = 45 ∨ k = 46))) → σ1 c k = σ c k) ∧ (∀ c k : Nat, c ≠ 200 → τ1 c k = τ c k) := by
  unfold B_X12_marks_126 at h
  by_cases c_1 : 0 ≤ x5
  · rw [if_pos c_1] at h
    obtain ⟨v_2, e_2, h⟩ := nm_some h
    obtain ⟨v_3, e_3, h⟩ := nm_some h
    obtain ⟨v_4, e_4, h⟩ := nm_some h
    have f9 := hrec_74 σ τ x1 x2 x3 v_3 x5 y0 v_2 x8 v_4 _ _ _ h
    refine ⟨fun c k hn => (f9.1 c k hn).trans ?_, fun c k hn => (f9.2 c k hn).trans ?_⟩
    · rfl
    · rfl
  · rw [if_neg c_1] at h
    obtain ⟨v_5, e_5, h⟩ := nm_some h
    obtain ⟨v_6, e_6, h⟩ := nm_some h
    obtain ⟨v_7, e_7, h⟩ := nm_some h
    have f9 := hrec_74 σ τ x1 x2 x3 v_6 x8 y0 v_5 x8 v_7 _ _ _ h
    refine ⟨fun c k hn => (f9.1 c k hn).trans ?_, fun c k hn => (f9.2 c k hn).trans ?_⟩
    · rfl
    · rfl
set_option maxHeartbeats 2000000 in
theorem fr_C_X12_marks_74 (N : Nat) (rec_62 : gI → gJ → Int32 → Int32 → Int32 → Int32 → Int32 → Int32 → Int32 → Int32 → Option (Int32 × gI × gJ)) (hrec_62 : ∀ (σ : gI) (τ : gJ) (x1 : Int32) (x2 : Int32) (x3 : Int32) (x4 : Int32) (x5 : Int32) (x6 : Int32) (x7 : Int32) (x8 : Int32) (r : Int32) (σ1 : gI) (τ1 : gJ), rec_62 σ τ x1 x2 x3 x4 x5 x6 x7 x8 = some (r, σ1, τ1) → (∀ c k : Nat, ¬ (c = 218 ∨ c = 224 ∨ (c = 199 ∧ (k = 0 ∨ k = 1 ∨ k = 34 ∨ k = 45 ∨ k = 46))) → σ1 c k = σ c k) ∧ (∀ c k : Nat, c ≠ 200 → τ1 c k = τ c k)) (rec_74 : gI → gJ → Int32 → Int32 → Int32 → Int32 → Int32 → Int32 → Int32 → Int32 → Int32 → Option (Int32 × gI × gJ)) (hrec_74 : ∀ (σ : gI) (τ : gJ) (x1 : Int32) (x2 : Int32) (x3 : Int32) (x4 : Int32) (x5 : Int32) (x6 : Int32) (x7 : Int32) (x8 : Int32) (x9 : Int32) (r : Int32) (σ1 : gI) (τ1 : gJ), rec_74 σ τ x1 x2 x3 x4 x5 x6 x7 x8 x9 = some (r, σ1, τ1) → (∀ c k : Nat, ¬ (c = 218 ∨ c = 224 ∨ (c = 199 ∧ (k = 0 ∨ k = 1 ∨ k = 34 ∨ k = 45 ∨ k = 46))) → σ1 c k = σ c k) ∧ (∀ c k : Nat, c ≠ 200 → τ1 c k = τ c k)) (σ : gI) (τ : gJ) (x1 : Int32) (x2 : Int32) (x3 : Int32) (x4 : Int32) (x5 : Int32) (x6 : Int32) (x7 : Int32) (x8 : Int32) (x9 : Int32) {r : Int32} {σ1 : gI} {τ1 : gJ} (h : C_X12_marks_74 N rec_62 rec_74 σ τ x1 x2 x3 x4 x5 x6 x7 x8 x9 = some (r, σ1, τ1)) : (∀ c k : Nat, ¬ (c = 218 ∨ c = 224 ∨ (c = 199 ∧ (k = 0 ∨ k = 1 ∨ k = 34 ∨ k = 45 ∨ k = 46))) → σ1 c k = σ c k) ∧ (∀ c k : Nat, c ≠ 200 → τ1 c k = τ c k) := by
  unfold C_X12_marks_74 at h
  by_cases c_1 : 9 < x9
  · rw [if_pos c_1] at h
    obtain ⟨v_2, e_2, h⟩ := nm_some h
    have f9 := hrec_62 σ τ x1 x2 x3 x4 x5 x6 x7 v_2 _ _ _ h
    refine ⟨fun c k hn => (f9.1 c k hn).trans ?_, fun c k hn => (f9.2 c k hn).trans ?_⟩
    · rfl
    · rfl
  · rw [if_neg c_1] at h
    obtain ⟨r_3, σ_3, τ_3, q_3, h⟩ := bd_some h
    have f_3 := fr_B_X12_goesAlone_0 N σ τ x8 x1 x2 x9 q_3
    by_cases c_2 : r_3 < 0
    · rw [if_pos c_2] at h
      obtain ⟨v_5, e_5, h⟩ := nm_some h
      have f9 := hrec_74 σ_3 τ_3 x1 x2 x3 x4 x5 x6 x7 x8 v_5 _ _ _ h
      refine ⟨fun c k hn => (f9.1 c k hn).trans ?_, fun c k hn => (f9.2 c k hn).trans ?_⟩
      · rw [f_3.1 c k (by omega)]
      · rw [f_3.2 c k]
    · rw [if_neg c_2] at h
      by_cases c_3 : σ_3 224 4 = 1
      · rw [if_pos c_3] at h
        by_cases c_4 : σ_3 224 3 = x3
        · rw [if_pos c_4] at h
          by_cases c_5 : 0 ≤ x5
          · rw [if_pos c_5] at h
            have f9 := fr_B_X12_marks_126 N rec_62 hrec_62 rec_74 hrec_74 σ_3 τ_3 x1 x2 x3 x4 x5 x7 x8 x9 x6 h
            refine ⟨fun c k hn => (f9.1 c k hn).trans ?_, fun c k hn => (f9.2 c k hn).trans ?_⟩
            · rw [f_3.1 c k (by omega)]
            · rw [f_3.2 c k]
          · rw [if_neg c_5] at h
            have f9 := fr_B_X12_marks_126 N rec_62 hrec_62 rec_74 hrec_74 σ_3 τ_3 x1 x2 x3 x4 x5 x7 x8 x9 x9 h
            refine ⟨fun c k hn => (f9.1 c k hn).trans ?_, fun c k hn => (f9.2 c k hn).trans ?_⟩
            · rw [f_3.1 c k (by omega)]
            · rw [f_3.2 c k]
        · rw [if_neg c_4] at h
          obtain ⟨v_9, e_9, h⟩ := nm_some h
          have f9 := hrec_74 σ_3 τ_3 x1 x2 x3 x4 x5 x6 x7 x8 v_9 _ _ _ h
          refine ⟨fun c k hn => (f9.1 c k hn).trans ?_, fun c k hn => (f9.2 c k hn).trans ?_⟩
          · rw [f_3.1 c k (by omega)]
          · rw [f_3.2 c k]
      · rw [if_neg c_3] at h
        obtain ⟨v_7, e_7, h⟩ := nm_some h
        have f9 := hrec_74 σ_3 τ_3 x1 x2 x3 x4 x5 x6 x7 x8 v_7 _ _ _ h
        refine ⟨fun c k hn => (f9.1 c k hn).trans ?_, fun c k hn => (f9.2 c k hn).trans ?_⟩
        · rw [f_3.1 c k (by omega)]
        · rw [f_3.2 c k]
theorem fr_H_X12_marks_74 (N : Nat) (rec_62 : gI → gJ → Int32 → Int32 → Int32 → Int32 → Int32 → Int32 → Int32 → Int32 → Option (Int32 × gI × gJ)) (hrec_62 : ∀ (σ : gI) (τ : gJ) (x1 : Int32) (x2 : Int32) (x3 : Int32) (x4 : Int32) (x5 : Int32) (x6 : Int32) (x7 : Int32) (x8 : Int32) (r : Int32) (σ1 : gI) (τ1 : gJ), rec_62 σ τ x1 x2 x3 x4 x5 x6 x7 x8 = some (r, σ1, τ1) → (∀ c k : Nat, ¬ (c = 218 ∨ c = 224 ∨ (c = 199 ∧ (k = 0 ∨ k = 1 ∨ k = 34 ∨ k = 45 ∨ k = 46))) → σ1 c k = σ c k) ∧ (∀ c k : Nat, c ≠ 200 → τ1 c k = τ c k)) : ∀ (n : Nat) (σ : gI) (τ : gJ) (x1 : Int32) (x2 : Int32) (x3 : Int32) (x4 : Int32) (x5 : Int32) (x6 : Int32) (x7 : Int32) (x8 : Int32) (x9 : Int32) (r : Int32) (σ1 : gI) (τ1 : gJ), H_X12_marks_74 N rec_62 n σ τ x1 x2 x3 x4 x5 x6 x7 x8 x9 = some (r, σ1, τ1) → (∀ c k : Nat, ¬ (c = 218 ∨ c = 224 ∨ (c = 199 ∧ (k = 0 ∨ k = 1 ∨ k = 34 ∨ k = 45 ∨ k = 46))) → σ1 c k = σ c k) ∧ (∀ c k : Nat, c ≠ 200 → τ1 c k = τ c k) := by
  intro n
  induction n with
  | zero => intro σ τ x1 x2 x3 x4 x5 x6 x7 x8 x9 r σ1 τ1 h; cases h
  | succ n ih =>
    intro σ τ x1 x2 x3 x4 x5 x6 x7 x8 x9 r σ1 τ1 h
    exact fr_C_X12_marks_74 N rec_62 hrec_62 (H_X12_marks_74 N rec_62 n) ih σ τ x1 x2 x3 x4 x5 x6 x7 x8 x9 h
set_option maxHeartbeats 2000000 in
theorem fr_C_X12_marks_62 (N : Nat) (rec_62 : gI → gJ → Int32 → Int32 → Int32 → Int32 → Int32 → Int32 → Int32 → Int32 → Option (Int32 × gI × gJ)) (hrec_62 : ∀ (σ : gI) (τ : gJ) (x1 : Int32) (x2 : Int32) (x3 : Int32) (x4 : Int32) (x5 : Int32) (x6 : Int32) (x7 : Int32) (x8 : Int32) (r : Int32) (σ1 : gI) (τ1 : gJ), rec_62 σ τ x1 x2 x3 x4 x5 x6 x7 x8 = some (r, σ1, τ1) → (∀ c k : Nat, ¬ (c = 218 ∨ c = 224 ∨ (c = 199 ∧ (k = 0 ∨ k = 1 ∨ k = 34 ∨ k = 45 ∨ k = 46))) → σ1 c k = σ c k) ∧ (∀ c k : Nat, c ≠ 200 → τ1 c k = τ c k)) (σ : gI) (τ : gJ) (x1 : Int32) (x2 : Int32) (x3 : Int32) (x4 : Int32) (x5 : Int32) (x6 : Int32) (x7 : Int32) (x8 : Int32) {r : Int32} {σ1 : gI} {τ1 : gJ} (h : C_X12_marks_62 N rec_62 σ τ x1 x2 x3 x4 x5 x6 x7 x8 = some (r, σ1, τ1)) : (∀ c k : Nat, ¬ (c = 218 ∨ c = 224 ∨ (c = 199 ∧ (k = 0 ∨ k = 1 ∨ k = 34 ∨ k = 45 ∨ k = 46))) → σ1 c k = σ c k) ∧ (∀ c k : Nat, c ≠ 200 → τ1 c k = τ c k) := by
  unfold C_X12_marks_62 at h
  by_cases c_1 : σ 199 3 ≤ x8
  · rw [if_pos c_1] at h
    obtain ⟨σ_2, e_2, h⟩ := nm_some h
    by_cases c_2 : x4 ≤ 0
    · rw [if_pos c_2] at h
      obtain ⟨r_4, σ_4, τ_4, q_4, h⟩ := bd_some h
      have f_4 := fr_B_X12_enters_0 N σ_2 τ x7.toInt64 q_4
      obtain ⟨rfl, rfl, rfl⟩ := sm_inj h
      refine ⟨fun c k hn => ?_, fun c k hn => ?_⟩
      · rw [f_4.1 c k (by omega), e_2, up2_ne (by omega)]
      · rw [f_4.2 c k hn]
    · rw [if_neg c_2] at h
      obtain ⟨r_5, σ_5, τ_5, q_5, h⟩ := bd_some h
      have f_5 := fr_B_X12_enters_0 N σ_2 τ x5.toInt64 q_5
      obtain ⟨r_6, σ_6, τ_6, q_6, h⟩ := bd_some h
      have f_6 := fr_B_X12_enters_0 N σ_5 τ_5 x6.toInt64 q_6
      obtain ⟨r_7, σ_7, τ_7, q_7, h⟩ := bd_some h
      have f_7 := fr_B_X12_enters_0 N σ_6 τ_6 x7.toInt64 q_7
      obtain ⟨rfl, rfl, rfl⟩ := sm_inj h
      refine ⟨fun c k hn => ?_, fun c k hn => ?_⟩
      · rw [f_7.1 c k (by omega), f_6.1 c k (by omega), f_5.1 c k (by omega), e_2, up2_ne (by omega)]
      · rw [f_7.2 c k hn, f_6.2 c k hn, f_5.2 c k hn]
  · rw [if_neg c_1] at h
    have f9 := fr_H_X12_marks_74 N rec_62 hrec_62 N σ τ x1 x2 x3 x4 x5 x6 x7 x8 0 _ _ _ h
    refine ⟨fun c k hn => (f9.1 c k hn).trans ?_, fun c k hn => (f9.2 c k hn).trans ?_⟩
    · rfl
    · rfl
theorem fr_H_X12_marks_62 (N : Nat) : ∀ (n : Nat) (σ : gI) (τ : gJ) (x1 : Int32) (x2 : Int32) (x3 : Int32) (x4 : Int32) (x5 : Int32) (x6 : Int32) (x7 : Int32) (x8 : Int32) (r : Int32) (σ1 : gI) (τ1 : gJ), H_X12_marks_62 N n σ τ x1 x2 x3 x4 x5 x6 x7 x8 = some (r, σ1, τ1) → (∀ c k : Nat, ¬ (c = 218 ∨ c = 224 ∨ (c = 199 ∧ (k = 0 ∨ k = 1 ∨ k = 34 ∨ k = 45 ∨ k = 46))) → σ1 c k = σ c k) ∧ (∀ c k : Nat, c ≠ 200 → τ1 c k = τ c k) := by
  intro n
  induction n with
  | zero => intro σ τ x1 x2 x3 x4 x5 x6 x7 x8 r σ1 τ1 h; cases h
  | succ n ih =>
    intro σ τ x1 x2 x3 x4 x5 x6 x7 x8 r σ1 τ1 h
    exact fr_C_X12_marks_62 N (H_X12_marks_62 N n) ih σ τ x1 x2 x3 x4 x5 x6 x7 x8 h
set_option maxHeartbeats 2000000 in
theorem fr_B_X12_marks_0 (N : Nat) (σ : gI) (τ : gJ) (x1 : Int32) (x2 : Int32) (x3 : Int32) {r : Int32} {σ1 : gI} {τ1 : gJ} (h : B_X12_marks_0 N σ τ x1 x2 x3 = some (r, σ1, τ1)) : (∀ c k : Nat, ¬ (c = 218 ∨ c = 224 ∨ (c = 199 ∧ (k = 0 ∨ k = 1 ∨ k = 34 ∨ k = 45 ∨ k = 46))) → σ1 c k = σ c k) ∧ (∀ c k : Nat, c ≠ 200 → τ1 c k = τ c k) := by
  unfold B_X12_marks_0 at h
  obtain ⟨σ_1, e_1, h⟩ := nm_some h
  obtain ⟨r_2, σ_2, τ_2, q_2, h⟩ := bd_some h
  have f_2 := fr_B_X12_in_0 N σ_1 τ x1.toInt64 0 99 q_2
  by_cases c_1 : r_2 = 0
  · rw [if_pos c_1] at h
    obtain ⟨rfl, rfl, rfl⟩ := sm_inj h
    refine ⟨fun c k hn => ?_, fun c k hn => ?_⟩
    · rw [f_2.1 c k id, e_1, up2_ne (by omega)]
    · rw [f_2.2 c k]
  · rw [if_neg c_1] at h
    obtain ⟨r_4, σ_4, τ_4, q_4, h⟩ := bd_some h
    have f_4 := fr_B_X12_in_0 N σ_2 τ_2 x2.toInt64 0 9 q_4
    by_cases c_2 : r_4 = 0
    · rw [if_pos c_2] at h
      obtain ⟨rfl, rfl, rfl⟩ := sm_inj h
      refine ⟨fun c k hn => ?_, fun c k hn => ?_⟩
      · rw [f_4.1 c k id, f_2.1 c k id, e_1, up2_ne (by omega)]
      · rw [f_4.2 c k, f_2.2 c k]
    · rw [if_neg c_2] at h
      obtain ⟨r_6, σ_6, τ_6, q_6, h⟩ := bd_some h
      have f_6 := fr_B_X12_in_0 N σ_4 τ_4 x3.toInt64 0 4095 q_6
      by_cases c_3 : r_6 = 0
      · rw [if_pos c_3] at h
        obtain ⟨rfl, rfl, rfl⟩ := sm_inj h
        refine ⟨fun c k hn => ?_, fun c k hn => ?_⟩
        · rw [f_6.1 c k id, f_4.1 c k id, f_2.1 c k id, e_1, up2_ne (by omega)]
        · rw [f_6.2 c k, f_4.2 c k, f_2.2 c k]
      · rw [if_neg c_3] at h
        obtain ⟨r_8, σ_8, τ_8, q_8, h⟩ := bd_some h
        have f_8 := fr_B_X12_thinksNow_0 N σ_6 τ_6 q_8
        have f9 := fr_H_X12_marks_62 N N σ_8 τ_8 x1 x2 x3 0 (-1) (-1) 0 0 _ _ _ h
        refine ⟨fun c k hn => (f9.1 c k hn).trans ?_, fun c k hn => (f9.2 c k hn).trans ?_⟩
        · rw [f_8.1 c k (by omega), f_6.1 c k id, f_4.1 c k id, f_2.1 c k id, e_1, up2_ne (by omega)]
        · rw [f_8.2 c k, f_6.2 c k, f_4.2 c k, f_2.2 c k]
set_option maxHeartbeats 2000000 in
theorem fr_C_X12_next_133 (N : Nat) (rec_49 : gI → gJ → Int32 → Int32 → Int32 → Int32 → Int32 → Option (Int32 × gI × gJ)) (hrec_49 : ∀ (σ : gI) (τ : gJ) (x1 : Int32) (x2 : Int32) (x3 : Int32) (x4 : Int32) (x5 : Int32) (r : Int32) (σ1 : gI) (τ1 : gJ), rec_49 σ τ x1 x2 x3 x4 x5 = some (r, σ1, τ1) → (∀ c k : Nat, ¬ (c = 218 ∨ c = 224 ∨ c = 229 ∨ c = 230 ∨ (c = 199 ∧ (k = 0 ∨ k = 1 ∨ k = 34 ∨ k = 45 ∨ k = 46))) → σ1 c k = σ c k) ∧ (∀ c k : Nat, c ≠ 200 → τ1 c k = τ c k)) (rec_133 : gI → gJ → Int32 → Int32 → Int32 → Int32 → Int32 → Int32 → Int32 → Option (Int32 × gI × gJ)) (hrec_133 : ∀ (σ : gI) (τ : gJ) (x1 : Int32) (x2 : Int32) (x3 : Int32) (x4 : Int32) (x5 : Int32) (x6 : Int32) (x7 : Int32) (r : Int32) (σ1 : gI) (τ1 : gJ), rec_133 σ τ x1 x2 x3 x4 x5 x6 x7 = some (r, σ1, τ1) → (∀ c k : Nat, ¬ (c = 218 ∨ c = 224 ∨ c = 229 ∨ c = 230 ∨ (c = 199 ∧ (k = 0 ∨ k = 1 ∨ k = 34 ∨ k = 45 ∨ k = 46))) → σ1 c k = σ c k) ∧ (∀ c k : Nat, c ≠ 200 → τ1 c k = τ c k)) (σ : gI) (τ : gJ) (x1 : Int32) (x2 : Int32) (x3 : Int32) (x4 : Int32) (x5 : Int32) (x6 : Int32) (x7 : Int32) {r : Int32} {σ1 : gI} {τ1 : gJ} (h : C_X12_next_133 N rec_49 rec_133 σ τ x1 x2 x3 x4 x5 x6 x7 = some (r, σ1, τ1)) : (∀ c k : Nat, ¬ (c = 218 ∨ c = 224 ∨ c = 229 ∨ c = 230 ∨ (c = 199 ∧ (k = 0 ∨ k = 1 ∨ k = 34 ∨ k = 45 ∨ k = 46))) → σ1 c k = σ c k) ∧ (∀ c k : Nat, c ≠ 200 → τ1 c k = τ c k) := by
  unfold C_X12_next_133 at h
  by_cases c_1 : 12 < x7
  · rw [if_pos c_1] at h
    by_cases c_2 : x3 < 0
    · rw [if_pos c_2] at h
      obtain ⟨v_3, e_3, h⟩ := nm_some h
      have f9 := hrec_49 σ τ x1 x2 x5 x6 v_3 _ _ _ h
      refine ⟨fun c k hn => (f9.1 c k hn).trans ?_, fun c k hn => (f9.2 c k hn).trans ?_⟩
      · rfl
      · rfl
    · rw [if_neg c_2] at h
      by_cases c_3 : x4 ≤ x6
      · rw [if_pos c_3] at h
        obtain ⟨v_5, e_5, h⟩ := nm_some h
        have f9 := hrec_49 σ τ x1 x2 x3 x4 v_5 _ _ _ h
        refine ⟨fun c k hn => (f9.1 c k hn).trans ?_, fun c k hn => (f9.2 c k hn).trans ?_⟩
        · rfl
        · rfl
      · rw [if_neg c_3] at h
        obtain ⟨v_6, e_6, h⟩ := nm_some h
        have f9 := hrec_49 σ τ x1 x2 x5 x6 v_6 _ _ _ h
        refine ⟨fun c k hn => (f9.1 c k hn).trans ?_, fun c k hn => (f9.2 c k hn).trans ?_⟩
        · rfl
        · rfl
  · rw [if_neg c_1] at h
    obtain ⟨j_7, -, -, h⟩ := ck_some h
    obtain ⟨v_8, e_8, h⟩ := nm_some h
    obtain ⟨v_9, e_9, h⟩ := nm_some h
    have f9 := hrec_133 σ τ x1 x2 x3 x4 x5 v_8 v_9 _ _ _ h
    refine ⟨fun c k hn => (f9.1 c k hn).trans ?_, fun c k hn => (f9.2 c k hn).trans ?_⟩
    · rfl
    · rfl
theorem fr_H_X12_next_133 (N : Nat) (rec_49 : gI → gJ → Int32 → Int32 → Int32 → Int32 → Int32 → Option (Int32 × gI × gJ)) (hrec_49 : ∀ (σ : gI) (τ : gJ) (x1 : Int32) (x2 : Int32) (x3 : Int32) (x4 : Int32) (x5 : Int32) (r : Int32) (σ1 : gI) (τ1 : gJ), rec_49 σ τ x1 x2 x3 x4 x5 = some (r, σ1, τ1) → (∀ c k : Nat, ¬ (c = 218 ∨ c = 224 ∨ c = 229 ∨ c = 230 ∨ (c = 199 ∧ (k = 0 ∨ k = 1 ∨ k = 34 ∨ k = 45 ∨ k = 46))) → σ1 c k = σ c k) ∧ (∀ c k : Nat, c ≠ 200 → τ1 c k = τ c k)) : ∀ (n : Nat) (σ : gI) (τ : gJ) (x1 : Int32) (x2 : Int32) (x3 : Int32) (x4 : Int32) (x5 : Int32) (x6 : Int32) (x7 : Int32) (r : Int32) (σ1 : gI) (τ1 : gJ), H_X12_next_133 N rec_49 n σ τ x1 x2 x3 x4 x5 x6 x7 = some (r, σ1, τ1) → (∀ c k : Nat, ¬ (c = 218 ∨ c = 224 ∨ c = 229 ∨ c = 230 ∨ (c = 199 ∧ (k = 0 ∨ k = 1 ∨ k = 34 ∨ k = 45 ∨ k = 46))) → σ1 c k = σ c k) ∧ (∀ c k : Nat, c ≠ 200 → τ1 c k = τ c k) := by
  intro n
  induction n with
  | zero => intro σ τ x1 x2 x3 x4 x5 x6 x7 r σ1 τ1 h; cases h
  | succ n ih =>
    intro σ τ x1 x2 x3 x4 x5 x6 x7 r σ1 τ1 h
    exact fr_C_X12_next_133 N rec_49 hrec_49 (H_X12_next_133 N rec_49 n) ih σ τ x1 x2 x3 x4 x5 x6 x7 h
set_option maxHeartbeats 2000000 in
theorem fr_C_X12_next_85 (N : Nat) (rec_49 : gI → gJ → Int32 → Int32 → Int32 → Int32 → Int32 → Option (Int32 × gI × gJ)) (hrec_49 : ∀ (σ : gI) (τ : gJ) (x1 : Int32) (x2 : Int32) (x3 : Int32) (x4 : Int32) (x5 : Int32) (r : Int32) (σ1 : gI) (τ1 : gJ), rec_49 σ τ x1 x2 x3 x4 x5 = some (r, σ1, τ1) → (∀ c k : Nat, ¬ (c = 218 ∨ c = 224 ∨ c = 229 ∨ c = 230 ∨ (c = 199 ∧ (k = 0 ∨ k = 1 ∨ k = 34 ∨ k = 45 ∨ k = 46))) → σ1 c k = σ c k) ∧ (∀ c k : Nat, c ≠ 200 → τ1 c k = τ c k)) (rec_85 : gI → gJ → Int32 → Int32 → Int32 → Int32 → Int32 → Int32 → Option (Int32 × gI × gJ)) (hrec_85 : ∀ (σ : gI) (τ : gJ) (x1 : Int32) (x2 : Int32) (x3 : Int32) (x4 : Int32) (x5 : Int32) (x6 : Int32) (r : Int32) (σ1 : gI) (τ1 : gJ), rec_85 σ τ x1 x2 x3 x4 x5 x6 = some (r, σ1, τ1) → (∀ c k : Nat, ¬ (c = 218 ∨ c = 224 ∨ c = 229 ∨ c = 230 ∨ (c = 199 ∧ (k = 0 ∨ k = 1 ∨ k = 34 ∨ k = 45 ∨ k = 46))) → σ1 c k = σ c k) ∧ (∀ c k : Nat, c ≠ 200 → τ1 c k = τ c k)) (σ : gI) (τ : gJ) (x1 : Int32) (x2 : Int32) (x3 : Int32) (x4 : Int32) (x5 : Int32) (x6 : Int32) {r : Int32} {σ1 : gI} {τ1 : gJ} (h : C_X12_next_85 N rec_49 rec_85 σ τ x1 x2 x3 x4 x5 x6 = some (r, σ1, τ1)) : (∀ c k : Nat, ¬ (c = 218 ∨ c = 224 ∨ c = 229 ∨ c = 230 ∨ (c = 199 ∧ (k = 0 ∨ k = 1 ∨ k = 34 ∨ k = 45 ∨ k = 46))) → σ1 c k = σ c k) ∧ (∀ c k : Nat, c ≠ 200 → τ1 c k = τ c k) := by
  unfold C_X12_next_85 at h
  by_cases c_1 : x2 < x6
  · rw [if_pos c_1] at h
    have f9 := fr_H_X12_next_133 N rec_49 hrec_49 N σ τ x1 x2 x3 x4 x5 0 0 _ _ _ h
    refine ⟨fun c k hn => (f9.1 c k hn).trans ?_, fun c k hn => (f9.2 c k hn).trans ?_⟩
    · rfl
    · rfl
  · rw [if_neg c_1] at h
    obtain ⟨j_2, -, -, h⟩ := ck_some h
    by_cases c_2 : σ 229 j_2 = 0
    · rw [if_pos c_2] at h
      obtain ⟨v_4, e_4, h⟩ := nm_some h
      have f9 := hrec_85 σ τ x1 x2 x3 x4 x5 v_4 _ _ _ h
      refine ⟨fun c k hn => (f9.1 c k hn).trans ?_, fun c k hn => (f9.2 c k hn).trans ?_⟩
      · rfl
      · rfl
    · rw [if_neg c_2] at h
      obtain ⟨r_5, σ_5, τ_5, q_5, h⟩ := bd_some h
      have f_5 := fr_B_X12_floatsTo_0 N σ τ x5 x1 x6 q_5
      obtain ⟨j_6, -, -, h⟩ := ck_some h
      obtain ⟨σ_7, e_7, h⟩ := nm_some h
      obtain ⟨v_8, e_8, h⟩ := nm_some h
      have f9 := hrec_85 σ_7 τ_5 x1 x2 x3 x4 x5 v_8 _ _ _ h
      refine ⟨fun c k hn => (f9.1 c k hn).trans ?_, fun c k hn => (f9.2 c k hn).trans ?_⟩
      · rw [e_7, up2_ne (by omega), f_5.1 c k (by omega)]
      · rw [f_5.2 c k]
theorem fr_H_X12_next_85 (N : Nat) (rec_49 : gI → gJ → Int32 → Int32 → Int32 → Int32 → Int32 → Option (Int32 × gI × gJ)) (hrec_49 : ∀ (σ : gI) (τ : gJ) (x1 : Int32) (x2 : Int32) (x3 : Int32) (x4 : Int32) (x5 : Int32) (r : Int32) (σ1 : gI) (τ1 : gJ), rec_49 σ τ x1 x2 x3 x4 x5 = some (r, σ1, τ1) → (∀ c k : Nat, ¬ (c = 218 ∨ c = 224 ∨ c = 229 ∨ c = 230 ∨ (c = 199 ∧ (k = 0 ∨ k = 1 ∨ k = 34 ∨ k = 45 ∨ k = 46))) → σ1 c k = σ c k) ∧ (∀ c k : Nat, c ≠ 200 → τ1 c k = τ c k)) : ∀ (n : Nat) (σ : gI) (τ : gJ) (x1 : Int32) (x2 : Int32) (x3 : Int32) (x4 : Int32) (x5 : Int32) (x6 : Int32) (r : Int32) (σ1 : gI) (τ1 : gJ), H_X12_next_85 N rec_49 n σ τ x1 x2 x3 x4 x5 x6 = some (r, σ1, τ1) → (∀ c k : Nat, ¬ (c = 218 ∨ c = 224 ∨ c = 229 ∨ c = 230 ∨ (c = 199 ∧ (k = 0 ∨ k = 1 ∨ k = 34 ∨ k = 45 ∨ k = 46))) → σ1 c k = σ c k) ∧ (∀ c k : Nat, c ≠ 200 → τ1 c k = τ c k) := by
  intro n
  induction n with
  | zero => intro σ τ x1 x2 x3 x4 x5 x6 r σ1 τ1 h; cases h
  | succ n ih =>
    intro σ τ x1 x2 x3 x4 x5 x6 r σ1 τ1 h
    exact fr_C_X12_next_85 N rec_49 hrec_49 (H_X12_next_85 N rec_49 n) ih σ τ x1 x2 x3 x4 x5 x6 h
set_option maxHeartbeats 2000000 in
theorem fr_C_X12_next_61 (N : Nat) (rec_49 : gI → gJ → Int32 → Int32 → Int32 → Int32 → Int32 → Option (Int32 × gI × gJ)) (hrec_49 : ∀ (σ : gI) (τ : gJ) (x1 : Int32) (x2 : Int32) (x3 : Int32) (x4 : Int32) (x5 : Int32) (r : Int32) (σ1 : gI) (τ1 : gJ), rec_49 σ τ x1 x2 x3 x4 x5 = some (r, σ1, τ1) → (∀ c k : Nat, ¬ (c = 218 ∨ c = 224 ∨ c = 229 ∨ c = 230 ∨ (c = 199 ∧ (k = 0 ∨ k = 1 ∨ k = 34 ∨ k = 45 ∨ k = 46))) → σ1 c k = σ c k) ∧ (∀ c k : Nat, c ≠ 200 → τ1 c k = τ c k)) (rec_61 : gI → gJ → Int32 → Int32 → Int32 → Int32 → Int32 → Int32 → Option (Int32 × gI × gJ)) (hrec_61 : ∀ (σ : gI) (τ : gJ) (x1 : Int32) (x2 : Int32) (x3 : Int32) (x4 : Int32) (x5 : Int32) (x6 : Int32) (r : Int32) (σ1 : gI) (τ1 : gJ), rec_61 σ τ x1 x2 x3 x4 x5 x6 = some (r, σ1, τ1) → (∀ c k : Nat, ¬ (c = 218 ∨ c = 224 ∨ c = 229 ∨ c = 230 ∨ (c = 199 ∧ (k = 0 ∨ k = 1 ∨ k = 34 ∨ k = 45 ∨ k = 46))) → σ1 c k = σ c k) ∧ (∀ c k : Nat, c ≠ 200 → τ1 c k = τ c k)) (σ : gI) (τ : gJ) (x1 : Int32) (x2 : Int32) (x3 : Int32) (x4 : Int32) (x5 : Int32) (x6 : Int32) {r : Int32} {σ1 : gI} {τ1 : gJ} (h : C_X12_next_61 N rec_49 rec_61 σ τ x1 x2 x3 x4 x5 x6 = some (r, σ1, τ1)) : (∀ c k : Nat, ¬ (c = 218 ∨ c = 224 ∨ c = 229 ∨ c = 230 ∨ (c = 199 ∧ (k = 0 ∨ k = 1 ∨ k = 34 ∨ k = 45 ∨ k = 46))) → σ1 c k = σ c k) ∧ (∀ c k : Nat, c ≠ 200 → τ1 c k = τ c k) := by
  unfold C_X12_next_61 at h
  by_cases c_1 : 12 < x6
  · rw [if_pos c_1] at h
    have f9 := fr_H_X12_next_85 N rec_49 hrec_49 N σ τ x1 x2 x3 x4 x5 0 _ _ _ h
    refine ⟨fun c k hn => (f9.1 c k hn).trans ?_, fun c k hn => (f9.2 c k hn).trans ?_⟩
    · rfl
    · rfl
  · rw [if_neg c_1] at h
    obtain ⟨j_2, -, -, h⟩ := ck_some h
    obtain ⟨σ_3, e_3, h⟩ := nm_some h
    obtain ⟨v_4, e_4, h⟩ := nm_some h
    have f9 := hrec_61 σ_3 τ x1 x2 x3 x4 x5 v_4 _ _ _ h
    refine ⟨fun c k hn => (f9.1 c k hn).trans ?_, fun c k hn => (f9.2 c k hn).trans ?_⟩
    · rw [e_3, up2_ne (by omega)]
    · rfl
theorem fr_H_X12_next_61 (N : Nat) (rec_49 : gI → gJ → Int32 → Int32 → Int32 → Int32 → Int32 → Option (Int32 × gI × gJ)) (hrec_49 : ∀ (σ : gI) (τ : gJ) (x1 : Int32) (x2 : Int32) (x3 : Int32) (x4 : Int32) (x5 : Int32) (r : Int32) (σ1 : gI) (τ1 : gJ), rec_49 σ τ x1 x2 x3 x4 x5 = some (r, σ1, τ1) → (∀ c k : Nat, ¬ (c = 218 ∨ c = 224 ∨ c = 229 ∨ c = 230 ∨ (c = 199 ∧ (k = 0 ∨ k = 1 ∨ k = 34 ∨ k = 45 ∨ k = 46))) → σ1 c k = σ c k) ∧ (∀ c k : Nat, c ≠ 200 → τ1 c k = τ c k)) : ∀ (n : Nat) (σ : gI) (τ : gJ) (x1 : Int32) (x2 : Int32) (x3 : Int32) (x4 : Int32) (x5 : Int32) (x6 : Int32) (r : Int32) (σ1 : gI) (τ1 : gJ), H_X12_next_61 N rec_49 n σ τ x1 x2 x3 x4 x5 x6 = some (r, σ1, τ1) → (∀ c k : Nat, ¬ (c = 218 ∨ c = 224 ∨ c = 229 ∨ c = 230 ∨ (c = 199 ∧ (k = 0 ∨ k = 1 ∨ k = 34 ∨ k = 45 ∨ k = 46))) → σ1 c k = σ c k) ∧ (∀ c k : Nat, c ≠ 200 → τ1 c k = τ c k) := by
  intro n
  induction n with
  | zero => intro σ τ x1 x2 x3 x4 x5 x6 r σ1 τ1 h; cases h
  | succ n ih =>
    intro σ τ x1 x2 x3 x4 x5 x6 r σ1 τ1 h
    exact fr_C_X12_next_61 N rec_49 hrec_49 (H_X12_next_61 N rec_49 n) ih σ τ x1 x2 x3 x4 x5 x6 h
set_option maxHeartbeats 2000000 in
theorem fr_C_X12_next_49 (N : Nat) (rec_49 : gI → gJ → Int32 → Int32 → Int32 → Int32 → Int32 → Option (Int32 × gI × gJ)) (hrec_49 : ∀ (σ : gI) (τ : gJ) (x1 : Int32) (x2 : Int32) (x3 : Int32) (x4 : Int32) (x5 : Int32) (r : Int32) (σ1 : gI) (τ1 : gJ), rec_49 σ τ x1 x2 x3 x4 x5 = some (r, σ1, τ1) → (∀ c k : Nat, ¬ (c = 218 ∨ c = 224 ∨ c = 229 ∨ c = 230 ∨ (c = 199 ∧ (k = 0 ∨ k = 1 ∨ k = 34 ∨ k = 45 ∨ k = 46))) → σ1 c k = σ c k) ∧ (∀ c k : Nat, c ≠ 200 → τ1 c k = τ c k)) (σ : gI) (τ : gJ) (x1 : Int32) (x2 : Int32) (x3 : Int32) (x4 : Int32) (x5 : Int32) {r : Int32} {σ1 : gI} {τ1 : gJ} (h : C_X12_next_49 N rec_49 σ τ x1 x2 x3 x4 x5 = some (r, σ1, τ1)) : (∀ c k : Nat, ¬ (c = 218 ∨ c = 224 ∨ c = 229 ∨ c = 230 ∨ (c = 199 ∧ (k = 0 ∨ k = 1 ∨ k = 34 ∨ k = 45 ∨ k = 46))) → σ1 c k = σ c k) ∧ (∀ c k : Nat, c ≠ 200 → τ1 c k = τ c k) := by
  unfold C_X12_next_49 at h
  by_cases c_1 : σ 199 3 ≤ x5
  · rw [if_pos c_1] at h
    obtain ⟨σ_2, e_2, h⟩ := nm_some h
    obtain ⟨r_3, σ_3, τ_3, q_3, h⟩ := bd_some h
    have f_3 := fr_B_X12_enters_0 N σ_2 τ x4.toInt64 q_3
    obtain ⟨rfl, rfl, rfl⟩ := sm_inj h
    refine ⟨fun c k hn => ?_, fun c k hn => ?_⟩
    · rw [f_3.1 c k (by omega), e_2, up2_ne (by omega)]
    · rw [f_3.2 c k hn]
  · rw [if_neg c_1] at h
    have f9 := fr_H_X12_next_61 N rec_49 hrec_49 N σ τ x1 x2 x3 x4 x5 0 _ _ _ h
    refine ⟨fun c k hn => (f9.1 c k hn).trans ?_, fun c k hn => (f9.2 c k hn).trans ?_⟩
    · rfl
    · rfl
theorem fr_H_X12_next_49 (N : Nat) : ∀ (n : Nat) (σ : gI) (τ : gJ) (x1 : Int32) (x2 : Int32) (x3 : Int32) (x4 : Int32) (x5 : Int32) (r : Int32) (σ1 : gI) (τ1 : gJ), H_X12_next_49 N n σ τ x1 x2 x3 x4 x5 = some (r, σ1, τ1) → (∀ c k : Nat, ¬ (c = 218 ∨ c = 224 ∨ c = 229 ∨ c = 230 ∨ (c = 199 ∧ (k = 0 ∨ k = 1 ∨ k = 34 ∨ k = 45 ∨ k = 46))) → σ1 c k = σ c k) ∧ (∀ c k : Nat, c ≠ 200 → τ1 c k = τ c k) := by
  intro n
  induction n with
  | zero => intro σ τ x1 x2 x3 x4 x5 r σ1 τ1 h; cases h
  | succ n ih =>
    intro σ τ x1 x2 x3 x4 x5 r σ1 τ1 h
    exact fr_C_X12_next_49 N (H_X12_next_49 N n) ih σ τ x1 x2 x3 x4 x5 h
set_option maxHeartbeats 2000000 in
theorem fr_B_X12_next_0 (N : Nat) (σ : gI) (τ : gJ) (x1 : Int32) {r : Int32} {σ1 : gI} {τ1 : gJ} (h : B_X12_next_0 N σ τ x1 = some (r, σ1, τ1)) : (∀ c k : Nat, ¬ (c = 218 ∨ c = 224 ∨ c = 229 ∨ c = 230 ∨ (c = 199 ∧ (k = 0 ∨ k = 1 ∨ k = 34 ∨ k = 45 ∨ k = 46))) → σ1 c k = σ c k) ∧ (∀ c k : Nat, c ≠ 200 → τ1 c k = τ c k) := by
  unfold B_X12_next_0 at h
  obtain ⟨σ_1, e_1, h⟩ := nm_some h
  by_cases c_1 : σ_1 199 3 = 0
  · rw [if_pos c_1] at h
    obtain ⟨rfl, rfl, rfl⟩ := sm_inj h
    refine ⟨fun c k hn => ?_, fun c k hn => ?_⟩
    · rw [e_1, up2_ne (by omega)]
    · rfl
  · rw [if_neg c_1] at h
    obtain ⟨r_3, σ_3, τ_3, q_3, h⟩ := bd_some h
    have f_3 := fr_B_X12_in_0 N σ_1 τ x1.toInt64 0 999 q_3
    by_cases c_2 : r_3 = 0
    · rw [if_pos c_2] at h
      obtain ⟨rfl, rfl, rfl⟩ := sm_inj h
      refine ⟨fun c k hn => ?_, fun c k hn => ?_⟩
      · rw [f_3.1 c k id, e_1, up2_ne (by omega)]
      · rw [f_3.2 c k]
    · rw [if_neg c_2] at h
      obtain ⟨r_5, σ_5, τ_5, q_5, h⟩ := bd_some h
      have f_5 := fr_B_X12_laysFits_0 N σ_3 τ_3 q_5
      by_cases c_3 : r_5 = 0
      · rw [if_pos c_3] at h
        obtain ⟨rfl, rfl, rfl⟩ := sm_inj h
        refine ⟨fun c k hn => ?_, fun c k hn => ?_⟩
        · rw [f_5.1 c k (by omega), f_3.1 c k id, e_1, up2_ne (by omega)]
        · rw [f_5.2 c k, f_3.2 c k]
      · rw [if_neg c_3] at h
        obtain ⟨r_7, σ_7, τ_7, q_7, h⟩ := bd_some h
        have f_7 := fr_B_X12_forks_0 N σ_5 τ_5 q_7
        have f9 := fr_H_X12_next_49 N N σ_7 τ_7 x1 r_7 (-1) 0 0 _ _ _ h
        refine ⟨fun c k hn => (f9.1 c k hn).trans ?_, fun c k hn => (f9.2 c k hn).trans ?_⟩
        · rw [f_7.1 c k id, f_5.1 c k (by omega), f_3.1 c k id, e_1, up2_ne (by omega)]
        · rw [f_7.2 c k, f_5.2 c k, f_3.2 c k]
set_option maxHeartbeats 2000000 in
theorem fr_C_X12_odds_161 (N : Nat) (rec_120 : gI → gJ → Int32 → Int32 → Int32 → Int32 → Int64 → Int64 → Int32 → Option (Int32 × gI × gJ)) (hrec_120 : ∀ (σ : gI) (τ : gJ) (x1 : Int32) (x2 : Int32) (x3 : Int32) (x4 : Int32) (x5 : Int64) (x7 : Int64) (x9 : Int32) (r : Int32) (σ1 : gI) (τ1 : gJ), rec_120 σ τ x1 x2 x3 x4 x5 x7 x9 = some (r, σ1, τ1) → (∀ c k : Nat, ¬ (c = 207 ∨ c = 218 ∨ (c = 199 ∧ (k = 0 ∨ k = 1 ∨ k = 31 ∨ k = 32 ∨ k = 34))) → σ1 c k = σ c k) ∧ (∀ c k : Nat, c ≠ 200 → τ1 c k = τ c k)) (rec_161 : gI → gJ → Int32 → Int32 → Int32 → Int32 → Int64 → Int64 → Int32 → Int64 → Int32 → Option (Int32 × gI × gJ)) (hrec_161 : ∀ (σ : gI) (τ : gJ) (x1 : Int32) (x2 : Int32) (x3 : Int32) (x4 : Int32) (x5 : Int64) (x7 : Int64) (x9 : Int32) (x10 : Int64) (x12 : Int32) (r : Int32) (σ1 : gI) (τ1 : gJ), rec_161 σ τ x1 x2 x3 x4 x5 x7 x9 x10 x12 = some (r, σ1, τ1) → (∀ c k : Nat, ¬ (c = 207 ∨ c = 218 ∨ (c = 199 ∧ (k = 0 ∨ k = 1 ∨ k = 31 ∨ k = 32 ∨ k = 34))) → σ1 c k = σ c k) ∧ (∀ c k : Nat, c ≠ 200 → τ1 c k = τ c k)) (σ : gI) (τ : gJ) (x1 : Int32) (x2 : Int32) (x3 : Int32) (x4 : Int32) (x5 : Int64) (x7 : Int64) (x9 : Int32) (x10 : Int64) (x12 : Int32) {r : Int32} {σ1 : gI} {τ1 : gJ} (h : C_X12_odds_161 N rec_120 rec_161 σ τ x1 x2 x3 x4 x5 x7 x9 x10 x12 = some (r, σ1, τ1)) : (∀ c k : Nat, ¬ (c = 207 ∨ c = 218 ∨ (c = 199 ∧ (k = 0 ∨ k = 1 ∨ k = 31 ∨ k = 32 ∨ k = 34))) → σ1 c k = σ c k) ∧ (∀ c k : Nat, c ≠ 200 → τ1 c k = τ c k) := by
  unfold C_X12_odds_161 at h
  by_cases c_1 : x4 ≤ x12
  · rw [if_pos c_1] at h
    obtain ⟨v_2, e_2, h⟩ := nm_some h
    obtain ⟨v_3, e_3, h⟩ := nm_some h
    have f9 := hrec_120 σ τ x1 x2 x3 x4 v_2 x7 v_3 _ _ _ h
    refine ⟨fun c k hn => (f9.1 c k hn).trans ?_, fun c k hn => (f9.2 c k hn).trans ?_⟩
    · rfl
    · rfl
  · rw [if_neg c_1] at h
    obtain ⟨r_4, σ_4, τ_4, q_4, h⟩ := bd_some h
    have f_4 := fr_B_X12_has_0 N σ τ x9 x12 q_4
    by_cases c_2 : r_4 = 0
    · rw [if_pos c_2] at h
      obtain ⟨v_6, e_6, h⟩ := nm_some h
      obtain ⟨v_7, e_7, h⟩ := nm_some h
      have f9 := hrec_161 σ_4 τ_4 x1 x2 x3 x4 x5 x7 x9 v_6 v_7 _ _ _ h
      refine ⟨fun c k hn => (f9.1 c k hn).trans ?_, fun c k hn => (f9.2 c k hn).trans ?_⟩
      · rw [f_4.1 c k id]
      · rw [f_4.2 c k]
    · rw [if_neg c_2] at h
      obtain ⟨v_8, e_8, h⟩ := nm_some h
      obtain ⟨v_9, e_9, h⟩ := nm_some h
      have f9 := hrec_161 σ_4 τ_4 x1 x2 x3 x4 x5 x7 x9 v_8 v_9 _ _ _ h
      refine ⟨fun c k hn => (f9.1 c k hn).trans ?_, fun c k hn => (f9.2 c k hn).trans ?_⟩
      · rw [f_4.1 c k id]
      · rw [f_4.2 c k]
theorem fr_H_X12_odds_161 (N : Nat) (rec_120 : gI → gJ → Int32 → Int32 → Int32 → Int32 → Int64 → Int64 → Int32 → Option (Int32 × gI × gJ)) (hrec_120 : ∀ (σ : gI) (τ : gJ) (x1 : Int32) (x2 : Int32) (x3 : Int32) (x4 : Int32) (x5 : Int64) (x7 : Int64) (x9 : Int32) (r : Int32) (σ1 : gI) (τ1 : gJ), rec_120 σ τ x1 x2 x3 x4 x5 x7 x9 = some (r, σ1, τ1) → (∀ c k : Nat, ¬ (c = 207 ∨ c = 218 ∨ (c = 199 ∧ (k = 0 ∨ k = 1 ∨ k = 31 ∨ k = 32 ∨ k = 34))) → σ1 c k = σ c k) ∧ (∀ c k : Nat, c ≠ 200 → τ1 c k = τ c k)) : ∀ (n : Nat) (σ : gI) (τ : gJ) (x1 : Int32) (x2 : Int32) (x3 : Int32) (x4 : Int32) (x5 : Int64) (x7 : Int64) (x9 : Int32) (x10 : Int64) (x12 : Int32) (r : Int32) (σ1 : gI) (τ1 : gJ), H_X12_odds_161 N rec_120 n σ τ x1 x2 x3 x4 x5 x7 x9 x10 x12 = some (r, σ1, τ1) → (∀ c k : Nat, ¬ (c = 207 ∨ c = 218 ∨ (c = 199 ∧ (k = 0 ∨ k = 1 ∨ k = 31 ∨ k = 32 ∨ k = 34))) → σ1 c k = σ c k) ∧ (∀ c k : Nat, c ≠ 200 → τ1 c k = τ c k) := by
  intro n
  induction n with
  | zero => intro σ τ x1 x2 x3 x4 x5 x7 x9 x10 x12 r σ1 τ1 h; cases h
  | succ n ih =>
    intro σ τ x1 x2 x3 x4 x5 x7 x9 x10 x12 r σ1 τ1 h
    exact fr_C_X12_odds_161 N rec_120 hrec_120 (H_X12_odds_161 N rec_120 n) ih σ τ x1 x2 x3 x4 x5 x7 x9 x10 x12 h
set_option maxHeartbeats 2000000 in
theorem fr_C_X12_odds_120 (N : Nat) (rec_120 : gI → gJ → Int32 → Int32 → Int32 → Int32 → Int64 → Int64 → Int32 → Option (Int32 × gI × gJ)) (hrec_120 : ∀ (σ : gI) (τ : gJ) (x1 : Int32) (x2 : Int32) (x3 : Int32) (x4 : Int32) (x5 : Int64) (x7 : Int64) (x9 : Int32) (r : Int32) (σ1 : gI) (τ1 : gJ), rec_120 σ τ x1 x2 x3 x4 x5 x7 x9 = some (r, σ1, τ1) → (∀ c k : Nat, ¬ (c = 207 ∨ c = 218 ∨ (c = 199 ∧ (k = 0 ∨ k = 1 ∨ k = 31 ∨ k = 32 ∨ k = 34))) → σ1 c k = σ c k) ∧ (∀ c k : Nat, c ≠ 200 → τ1 c k = τ c k)) (σ : gI) (τ : gJ) (x1 : Int32) (x2 : Int32) (x3 : Int32) (x4 : Int32) (x5 : Int64) (x7 : Int64) (x9 : Int32) {r : Int32} {σ1 : gI} {τ1 : gJ} (h : C_X12_odds_120 N rec_120 σ τ x1 x2 x3 x4 x5 x7 x9 = some (r, σ1, τ1)) : (∀ c k : Nat, ¬ (c = 207 ∨ c = 218 ∨ (c = 199 ∧ (k = 0 ∨ k = 1 ∨ k = 31 ∨ k = 32 ∨ k = 34))) → σ1 c k = σ c k) ∧ (∀ c k : Nat, c ≠ 200 → τ1 c k = τ c k) := by
  unfold C_X12_odds_120 at h
  by_cases c_1 : 1 <<< (x4 &&& 31) ≤ x9
  · rw [if_pos c_1] at h
    obtain ⟨σ_2, e_2, h⟩ := nm_some h
    obtain ⟨σ_3, e_3, h⟩ := nm_some h
    obtain ⟨r_4, σ_4, τ_4, q_4, h⟩ := bd_some h
    have f_4 := fr_B_X12_entersFraction_0 N σ_3 τ x5 x7 q_4
    obtain ⟨rfl, rfl, rfl⟩ := sm_inj h
    refine ⟨fun c k hn => ?_, fun c k hn => ?_⟩
    · rw [f_4.1 c k (by omega), e_3, up2_ne (by omega), e_2, up2_ne (by omega)]
    · rw [f_4.2 c k hn]
  · rw [if_neg c_1] at h
    obtain ⟨σ_5, e_5, h⟩ := nm_some h
    obtain ⟨r_6, σ_6, τ_6, q_6, h⟩ := bd_some h
    have f_6 := fr_B_X12_goesOn_0 N σ_5 τ x2 q_6
    obtain ⟨j_7, -, -, h⟩ := ck_some h
    by_cases c_2 : σ_6 207 j_7 = 1
    · rw [if_pos c_2] at h
      have f9 := fr_H_X12_odds_161 N rec_120 hrec_120 N σ_6 τ_6 x1 x2 x3 x4 x5 x7 x9 1 0 _ _ _ h
      refine ⟨fun c k hn => (f9.1 c k hn).trans ?_, fun c k hn => (f9.2 c k hn).trans ?_⟩
      · rw [f_6.1 c k (by omega), e_5, up2_ne (by omega)]
      · rw [f_6.2 c k]
    · rw [if_neg c_2] at h
      obtain ⟨v_9, e_9, h⟩ := nm_some h
      have f9 := hrec_120 σ_6 τ_6 x1 x2 x3 x4 x5 x7 v_9 _ _ _ h
      refine ⟨fun c k hn => (f9.1 c k hn).trans ?_, fun c k hn => (f9.2 c k hn).trans ?_⟩
      · rw [f_6.1 c k (by omega), e_5, up2_ne (by omega)]
      · rw [f_6.2 c k]
theorem fr_H_X12_odds_120 (N : Nat) : ∀ (n : Nat) (σ : gI) (τ : gJ) (x1 : Int32) (x2 : Int32) (x3 : Int32) (x4 : Int32) (x5 : Int64) (x7 : Int64) (x9 : Int32) (r : Int32) (σ1 : gI) (τ1 : gJ), H_X12_odds_120 N n σ τ x1 x2 x3 x4 x5 x7 x9 = some (r, σ1, τ1) → (∀ c k : Nat, ¬ (c = 207 ∨ c = 218 ∨ (c = 199 ∧ (k = 0 ∨ k = 1 ∨ k = 31 ∨ k = 32 ∨ k = 34))) → σ1 c k = σ c k) ∧ (∀ c k : Nat, c ≠ 200 → τ1 c k = τ c k) := by
  intro n
  induction n with
  | zero => intro σ τ x1 x2 x3 x4 x5 x7 x9 r σ1 τ1 h; cases h
  | succ n ih =>
    intro σ τ x1 x2 x3 x4 x5 x7 x9 r σ1 τ1 h
    exact fr_C_X12_odds_120 N (H_X12_odds_120 N n) ih σ τ x1 x2 x3 x4 x5 x7 x9 h
set_option maxHeartbeats 2000000 in
theorem fr_C_X12_odds_96 (N : Nat) (rec_96 : gI → gJ → Int32 → Int32 → Int32 → Int32 → Int64 → Int32 → Option (Int32 × gI × gJ)) (hrec_96 : ∀ (σ : gI) (τ : gJ) (x1 : Int32) (x2 : Int32) (x3 : Int32) (x4 : Int32) (x7 : Int64) (x9 : Int32) (r : Int32) (σ1 : gI) (τ1 : gJ), rec_96 σ τ x1 x2 x3 x4 x7 x9 = some (r, σ1, τ1) → (∀ c k : Nat, ¬ (c = 207 ∨ c = 218 ∨ (c = 199 ∧ (k = 0 ∨ k = 1 ∨ k = 31 ∨ k = 32 ∨ k = 34))) → σ1 c k = σ c k) ∧ (∀ c k : Nat, c ≠ 200 → τ1 c k = τ c k)) (σ : gI) (τ : gJ) (x1 : Int32) (x2 : Int32) (x3 : Int32) (x4 : Int32) (x7 : Int64) (x9 : Int32) {r : Int32} {σ1 : gI} {τ1 : gJ} (h : C_X12_odds_96 N rec_96 σ τ x1 x2 x3 x4 x7 x9 = some (r, σ1, τ1)) : (∀ c k : Nat, ¬ (c = 207 ∨ c = 218 ∨ (c = 199 ∧ (k = 0 ∨ k = 1 ∨ k = 31 ∨ k = 32 ∨ k = 34))) → σ1 c k = σ c k) ∧ (∀ c k : Nat, c ≠ 200 → τ1 c k = τ c k) := by
  unfold C_X12_odds_96 at h
  by_cases c_1 : x4 ≤ x9
  · rw [if_pos c_1] at h
    have f9 := fr_H_X12_odds_120 N N σ τ x1 x2 x3 x4 0 x7 0 _ _ _ h
    refine ⟨fun c k hn => (f9.1 c k hn).trans ?_, fun c k hn => (f9.2 c k hn).trans ?_⟩
    · rfl
    · rfl
  · rw [if_neg c_1] at h
    obtain ⟨v_2, e_2, h⟩ := nm_some h
    obtain ⟨v_3, e_3, h⟩ := nm_some h
    have f9 := hrec_96 σ τ x1 x2 x3 x4 v_2 v_3 _ _ _ h
    refine ⟨fun c k hn => (f9.1 c k hn).trans ?_, fun c k hn => (f9.2 c k hn).trans ?_⟩
    · rfl
    · rfl
theorem fr_H_X12_odds_96 (N : Nat) : ∀ (n : Nat) (σ : gI) (τ : gJ) (x1 : Int32) (x2 : Int32) (x3 : Int32) (x4 : Int32) (x7 : Int64) (x9 : Int32) (r : Int32) (σ1 : gI) (τ1 : gJ), H_X12_odds_96 N n σ τ x1 x2 x3 x4 x7 x9 = some (r, σ1, τ1) → (∀ c k : Nat, ¬ (c = 207 ∨ c = 218 ∨ (c = 199 ∧ (k = 0 ∨ k = 1 ∨ k = 31 ∨ k = 32 ∨ k = 34))) → σ1 c k = σ c k) ∧ (∀ c k : Nat, c ≠ 200 → τ1 c k = τ c k) := by
  intro n
  induction n with
  | zero => intro σ τ x1 x2 x3 x4 x7 x9 r σ1 τ1 h; cases h
  | succ n ih =>
    intro σ τ x1 x2 x3 x4 x7 x9 r σ1 τ1 h
    exact fr_C_X12_odds_96 N (H_X12_odds_96 N n) ih σ τ x1 x2 x3 x4 x7 x9 h
set_option maxHeartbeats 2000000 in
theorem fr_C_X12_odds_59 (N : Nat) (rec_59 : gI → gJ → Int32 → Int32 → Int32 → Int32 → Option (Int32 × gI × gJ)) (hrec_59 : ∀ (σ : gI) (τ : gJ) (x1 : Int32) (x2 : Int32) (x3 : Int32) (x4 : Int32) (r : Int32) (σ1 : gI) (τ1 : gJ), rec_59 σ τ x1 x2 x3 x4 = some (r, σ1, τ1) → (∀ c k : Nat, ¬ (c = 207 ∨ c = 218 ∨ (c = 199 ∧ (k = 0 ∨ k = 1 ∨ k = 31 ∨ k = 32 ∨ k = 34))) → σ1 c k = σ c k) ∧ (∀ c k : Nat, c ≠ 200 → τ1 c k = τ c k)) (σ : gI) (τ : gJ) (x1 : Int32) (x2 : Int32) (x3 : Int32) (x4 : Int32) {r : Int32} {σ1 : gI} {τ1 : gJ} (h : C_X12_odds_59 N rec_59 σ τ x1 x2 x3 x4 = some (r, σ1, τ1)) : (∀ c k : Nat, ¬ (c = 207 ∨ c = 218 ∨ (c = 199 ∧ (k = 0 ∨ k = 1 ∨ k = 31 ∨ k = 32 ∨ k = 34))) → σ1 c k = σ c k) ∧ (∀ c k : Nat, c ≠ 200 → τ1 c k = τ c k) := by
  unfold C_X12_odds_59 at h
  by_cases c_1 : (σ 206 43) + x2 ≤ 10 * ((σ 199 32) + x4)
  · rw [if_pos c_1] at h
    have f9 := fr_H_X12_odds_96 N N σ τ x1 x2 x3 x4 1 0 _ _ _ h
    refine ⟨fun c k hn => (f9.1 c k hn).trans ?_, fun c k hn => (f9.2 c k hn).trans ?_⟩
    · rfl
    · rfl
  · rw [if_neg c_1] at h
    obtain ⟨v_2, e_2, h⟩ := nm_some h
    have f9 := hrec_59 σ τ x1 x2 x3 v_2 _ _ _ h
    refine ⟨fun c k hn => (f9.1 c k hn).trans ?_, fun c k hn => (f9.2 c k hn).trans ?_⟩
    · rfl
    · rfl
theorem fr_H_X12_odds_59 (N : Nat) : ∀ (n : Nat) (σ : gI) (τ : gJ) (x1 : Int32) (x2 : Int32) (x3 : Int32) (x4 : Int32) (r : Int32) (σ1 : gI) (τ1 : gJ), H_X12_odds_59 N n σ τ x1 x2 x3 x4 = some (r, σ1, τ1) → (∀ c k : Nat, ¬ (c = 207 ∨ c = 218 ∨ (c = 199 ∧ (k = 0 ∨ k = 1 ∨ k = 31 ∨ k = 32 ∨ k = 34))) → σ1 c k = σ c k) ∧ (∀ c k : Nat, c ≠ 200 → τ1 c k = τ c k) := by
  intro n
  induction n with
  | zero => intro σ τ x1 x2 x3 x4 r σ1 τ1 h; cases h
  | succ n ih =>
    intro σ τ x1 x2 x3 x4 r σ1 τ1 h
    exact fr_C_X12_odds_59 N (H_X12_odds_59 N n) ih σ τ x1 x2 x3 x4 h
set_option maxHeartbeats 2000000 in
theorem fr_B_X12_odds_0 (N : Nat) (σ : gI) (τ : gJ) (x1 : Int32) (x2 : Int32) (x3 : Int32) {r : Int32} {σ1 : gI} {τ1 : gJ} (h : B_X12_odds_0 N σ τ x1 x2 x3 = some (r, σ1, τ1)) : (∀ c k : Nat, ¬ (c = 207 ∨ c = 218 ∨ (c = 199 ∧ (k = 0 ∨ k = 1 ∨ k = 31 ∨ k = 32 ∨ k = 34))) → σ1 c k = σ c k) ∧ (∀ c k : Nat, c ≠ 200 → τ1 c k = τ c k) := by
  unfold B_X12_odds_0 at h
  obtain ⟨σ_1, e_1, h⟩ := nm_some h
  obtain ⟨r_2, σ_2, τ_2, q_2, h⟩ := bd_some h
  have f_2 := fr_B_X12_isThing_0 N σ_1 τ x1 q_2
  by_cases c_1 : r_2 = 0
  · rw [if_pos c_1] at h
    obtain ⟨rfl, rfl, rfl⟩ := sm_inj h
    refine ⟨fun c k hn => ?_, fun c k hn => ?_⟩
    · rw [f_2.1 c k id, e_1, up2_ne (by omega)]
    · rw [f_2.2 c k]
  · rw [if_neg c_1] at h
    obtain ⟨r_4, σ_4, τ_4, q_4, h⟩ := bd_some h
    have f_4 := fr_B_X12_in_0 N σ_2 τ_2 x2.toInt64 0 60 q_4
    by_cases c_2 : r_4 = 0
    · rw [if_pos c_2] at h
      obtain ⟨rfl, rfl, rfl⟩ := sm_inj h
      refine ⟨fun c k hn => ?_, fun c k hn => ?_⟩
      · rw [f_4.1 c k id, f_2.1 c k id, e_1, up2_ne (by omega)]
      · rw [f_4.2 c k, f_2.2 c k]
    · rw [if_neg c_2] at h
      obtain ⟨r_6, σ_6, τ_6, q_6, h⟩ := bd_some h
      have f_6 := fr_B_X12_in_0 N σ_4 τ_4 x3.toInt64 0 10 q_6
      by_cases c_3 : r_6 = 0
      · rw [if_pos c_3] at h
        obtain ⟨rfl, rfl, rfl⟩ := sm_inj h
        refine ⟨fun c k hn => ?_, fun c k hn => ?_⟩
        · rw [f_6.1 c k id, f_4.1 c k id, f_2.1 c k id, e_1, up2_ne (by omega)]
        · rw [f_6.2 c k, f_4.2 c k, f_2.2 c k]
      · rw [if_neg c_3] at h
        obtain ⟨σ_8, e_8, h⟩ := nm_some h
        have f9 := fr_H_X12_odds_59 N N σ_8 τ_6 x1 x2 x3 0 _ _ _ h
        refine ⟨fun c k hn => (f9.1 c k hn).trans ?_, fun c k hn => (f9.2 c k hn).trans ?_⟩
        · rw [e_8, up2_ne (by omega), f_6.1 c k id, f_4.1 c k id, f_2.1 c k id, e_1, up2_ne (by omega)]
        · rw [f_6.2 c k, f_4.2 c k, f_2.2 c k]
set_option maxHeartbeats 2000000 in
theorem fr_B_X12_refuse_0 (N : Nat) (σ : gI) (τ : gJ) {r : Int32} {σ1 : gI} {τ1 : gJ} (h : B_X12_refuse_0 N σ τ = some (r, σ1, τ1)) : (∀ c k : Nat, ¬ ((c = 199 ∧ (k = 0))) → σ1 c k = σ c k) ∧ (∀ c k : Nat, τ1 c k = τ c k) := by
  unfold B_X12_refuse_0 at h
  obtain ⟨σ_1, e_1, h⟩ := nm_some h
  obtain ⟨rfl, rfl, rfl⟩ := sm_inj h
  refine ⟨fun c k hn => ?_, fun c k => ?_⟩
  · rw [e_1, up2_ne (by omega)]
  · rfl
set_option maxHeartbeats 2000000 in
theorem fr_B_X12_of_0 (N : Nat) (σ : gI) (τ : gJ) (x1 : Int32) (x2 : Int32) {r : Int32} {σ1 : gI} {τ1 : gJ} (h : B_X12_of_0 N σ τ x1 x2 = some (r, σ1, τ1)) : (∀ c k : Nat, ¬ ((c = 199 ∧ (k = 0))) → σ1 c k = σ c k) ∧ (∀ c k : Nat, τ1 c k = τ c k) := by
  unfold B_X12_of_0 at h
  obtain ⟨σ_1, e_1, h⟩ := nm_some h
  obtain ⟨r_2, σ_2, τ_2, q_2, h⟩ := bd_some h
  have f_2 := fr_B_X12_isThing_0 N σ_1 τ x1 q_2
  by_cases c_1 : r_2 = 0
  · rw [if_pos c_1] at h
    obtain ⟨r_4, σ_4, τ_4, q_4, h⟩ := bd_some h
    have f_4 := fr_B_X12_refuse_0 N σ_2 τ_2 q_4
    obtain ⟨rfl, rfl, rfl⟩ := sm_inj h
    refine ⟨fun c k hn => ?_, fun c k => ?_⟩
    · rw [f_4.1 c k (by omega), f_2.1 c k id, e_1, up2_ne (by omega)]
    · rw [f_4.2 c k, f_2.2 c k]
  · rw [if_neg c_1] at h
    obtain ⟨r_5, σ_5, τ_5, q_5, h⟩ := bd_some h
    have f_5 := fr_B_X12_in_0 N σ_2 τ_2 x2.toInt64 0 6 q_5
    by_cases c_2 : r_5 = 0
    · rw [if_pos c_2] at h
      obtain ⟨r_12, σ_12, τ_12, q_12, h⟩ := bd_some h
      have f_12 := fr_B_X12_refuse_0 N σ_5 τ_5 q_12
      obtain ⟨rfl, rfl, rfl⟩ := sm_inj h
      refine ⟨fun c k hn => ?_, fun c k => ?_⟩
      · rw [f_12.1 c k (by omega), f_5.1 c k id, f_2.1 c k id, e_1, up2_ne (by omega)]
      · rw [f_12.2 c k, f_5.2 c k, f_2.2 c k]
    · rw [if_neg c_2] at h
      obtain ⟨j_7, -, -, h⟩ := ck_some h
      obtain ⟨v_8, e_8, h⟩ := nm_some h
      by_cases c_3 : x2 = 5
      · rw [if_pos c_3] at h
        obtain ⟨j_10, -, -, h⟩ := ck_some h
        by_cases c_4 : σ_5 206 j_10 = 0
        · rw [if_pos c_4] at h
          obtain ⟨rfl, rfl, rfl⟩ := sm_inj h
          refine ⟨fun c k hn => ?_, fun c k => ?_⟩
          · rw [f_5.1 c k id, f_2.1 c k id, e_1, up2_ne (by omega)]
          · rw [f_5.2 c k, f_2.2 c k]
        · rw [if_neg c_4] at h
          obtain ⟨rfl, rfl, rfl⟩ := sm_inj h
          refine ⟨fun c k hn => ?_, fun c k => ?_⟩
          · rw [f_5.1 c k id, f_2.1 c k id, e_1, up2_ne (by omega)]
          · rw [f_5.2 c k, f_2.2 c k]
      · rw [if_neg c_3] at h
        obtain ⟨rfl, rfl, rfl⟩ := sm_inj h
        refine ⟨fun c k hn => ?_, fun c k => ?_⟩
        · rw [f_5.1 c k id, f_2.1 c k id, e_1, up2_ne (by omega)]
        · rw [f_5.2 c k, f_2.2 c k]
set_option maxHeartbeats 2000000 in
theorem fr_C_X12_savedAfter_24 (N : Nat) (rec_24 : gI → gJ → Int32 → Int32 → Option (Int32 × gI × gJ)) (hrec_24 : ∀ (σ : gI) (τ : gJ) (x1 : Int32) (x3 : Int32) (r : Int32) (σ1 : gI) (τ1 : gJ), rec_24 σ τ x1 x3 = some (r, σ1, τ1) → (∀ c k : Nat, ¬ (c = 207 ∨ c = 218 ∨ (c = 199 ∧ (k = 34))) → σ1 c k = σ c k) ∧ (∀ c k : Nat, τ1 c k = τ c k)) (σ : gI) (τ : gJ) (x1 : Int32) (x3 : Int32) {r : Int32} {σ1 : gI} {τ1 : gJ} (h : C_X12_savedAfter_24 N rec_24 σ τ x1 x3 = some (r, σ1, τ1)) : (∀ c k : Nat, ¬ (c = 207 ∨ c = 218 ∨ (c = 199 ∧ (k = 34))) → σ1 c k = σ c k) ∧ (∀ c k : Nat, τ1 c k = τ c k) := by
  unfold C_X12_savedAfter_24 at h
  by_cases c_1 : 300 < x3
  · rw [if_pos c_1] at h
    obtain ⟨rfl, rfl, rfl⟩ := sm_inj h
    refine ⟨fun c k hn => ?_, fun c k => ?_⟩
    · rfl
    · rfl
  · rw [if_neg c_1] at h
    obtain ⟨r_2, σ_2, τ_2, q_2, h⟩ := bd_some h
    have f_2 := fr_B_X12_thoseHow_0 N 207 σ τ 1 q_2
    by_cases c_2 : r_2 &&& x1 = x1
    · rw [if_pos c_2] at h
      obtain ⟨rfl, rfl, rfl⟩ := sm_inj h
      refine ⟨fun c k hn => ?_, fun c k => ?_⟩
      · rw [f_2.1 c k id]
      · rw [f_2.2 c k]
    · rw [if_neg c_2] at h
      obtain ⟨r_4, σ_4, τ_4, q_4, h⟩ := bd_some h
      have f_4 := fr_B_X12_thoseHow_0 N 207 σ_2 τ_2 2 q_4
      by_cases c_3 : r_4 &&& x1 = 0
      · rw [if_pos c_3] at h
        by_cases c_4 : 300 ≤ x3
        · rw [if_pos c_4] at h
          obtain ⟨v_7, e_7, h⟩ := nm_some h
          have f9 := hrec_24 σ_4 τ_4 x1 v_7 _ _ _ h
          refine ⟨fun c k hn => (f9.1 c k hn).trans ?_, fun c k => (f9.2 c k).trans ?_⟩
          · rw [f_4.1 c k id, f_2.1 c k id]
          · rw [f_4.2 c k, f_2.2 c k]
        · rw [if_neg c_4] at h
          obtain ⟨r_8, σ_8, τ_8, q_8, h⟩ := bd_some h
          have f_8 := fr_B_X12_minuteGoes_0 N 207 σ_4 τ_4 q_8
          obtain ⟨v_9, e_9, h⟩ := nm_some h
          have f9 := hrec_24 σ_8 τ_8 x1 v_9 _ _ _ h
          refine ⟨fun c k hn => (f9.1 c k hn).trans ?_, fun c k => (f9.2 c k).trans ?_⟩
          · rw [f_8.1 c k (by omega), f_4.1 c k id, f_2.1 c k id]
          · rw [f_8.2 c k, f_4.2 c k, f_2.2 c k]
      · rw [if_neg c_3] at h
        obtain ⟨rfl, rfl, rfl⟩ := sm_inj h
        refine ⟨fun c k hn => ?_, fun c k => ?_⟩
        · rw [f_4.1 c k id, f_2.1 c k id]
        · rw [f_4.2 c k, f_2.2 c k]
theorem fr_H_X12_savedAfter_24 (N : Nat) : ∀ (n : Nat) (σ : gI) (τ : gJ) (x1 : Int32) (x3 : Int32) (r : Int32) (σ1 : gI) (τ1 : gJ), H_X12_savedAfter_24 N n σ τ x1 x3 = some (r, σ1, τ1) → (∀ c k : Nat, ¬ (c = 207 ∨ c = 218 ∨ (c = 199 ∧ (k = 34))) → σ1 c k = σ c k) ∧ (∀ c k : Nat, τ1 c k = τ c k) := by
  intro n
  induction n with
  | zero => intro σ τ x1 x3 r σ1 τ1 h; cases h
  | succ n ih =>
    intro σ τ x1 x3 r σ1 τ1 h
    exact fr_C_X12_savedAfter_24 N (H_X12_savedAfter_24 N n) ih σ τ x1 x3 h
set_option maxHeartbeats 2000000 in
theorem fr_B_X12_savedAfter_0 (N : Nat) (σ : gI) (τ : gJ) (x1 : Int32) (x2 : Int32) {r : Int32} {σ1 : gI} {τ1 : gJ} (h : B_X12_savedAfter_0 N σ τ x1 x2 = some (r, σ1, τ1)) : (∀ c k : Nat, ¬ (c = 207 ∨ c = 218 ∨ (c = 199 ∧ (k = 34))) → σ1 c k = σ c k) ∧ (∀ c k : Nat, τ1 c k = τ c k) := by
  unfold B_X12_savedAfter_0 at h
  obtain ⟨r_1, σ_1, τ_1, q_1, h⟩ := bd_some h
  have f_1 := fr_B_X12_puts_0 N σ τ q_1
  obtain ⟨σ_2, e_2, h⟩ := nm_some h
  have f9 := fr_H_X12_savedAfter_24 N N σ_2 τ_1 x1 0 _ _ _ h
  refine ⟨fun c k hn => (f9.1 c k hn).trans ?_, fun c k => (f9.2 c k).trans ?_⟩
  · rw [e_2, up2_ne (by omega), f_1.1 c k (by omega)]
  · rw [f_1.2 c k]
set_option maxHeartbeats 2000000 in
theorem fr_B_X12_order_222 (N : Nat) (σ : gI) (τ : gJ) (x1 : Int32) (x2 : Int32) (x3 : Int32) (x4 : Int32) (x5 : Int32) (x6 : Int32) (x7 : Int32) {r : Int32} {σ1 : gI} {τ1 : gJ} (h : B_X12_order_222 N σ τ x1 x2 x3 x4 x5 x6 x7 = some (r, σ1, τ1)) : (∀ c k : Nat, ¬ (c = 206 ∨ c = 207 ∨ c = 218 ∨ (c = 199 ∧ (k = 0 ∨ k = 1 ∨ k = 34))) → σ1 c k = σ c k) ∧ (∀ c k : Nat, c ≠ 200 → τ1 c k = τ c k) := by
  unfold B_X12_order_222 at h
  obtain ⟨j_1, -, -, h⟩ := ck_some h
  obtain ⟨σ_2, e_2, h⟩ := nm_some h
  obtain ⟨j_3, -, -, h⟩ := ck_some h
  obtain ⟨σ_4, e_4, h⟩ := nm_some h
  by_cases c_1 : 0 ≤ x5
  · rw [if_pos c_1] at h
    obtain ⟨σ_6, e_6, h⟩ := nm_some h
    obtain ⟨r_7, σ_7, τ_7, q_7, h⟩ := bd_some h
    have f_7 := fr_B_X12_enters_0 N σ_6 τ x6.toInt64 q_7
    obtain ⟨r_8, σ_8, τ_8, q_8, h⟩ := bd_some h
    have f_8 := fr_B_X12_enters_0 N σ_7 τ_7 ((x5 - x6).toInt64) q_8
    obtain ⟨r_9, σ_9, τ_9, q_9, h⟩ := bd_some h
    have f_9 := fr_B_X12_enters_0 N σ_8 τ_8 x7.toInt64 q_9
    obtain ⟨rfl, rfl, rfl⟩ := sm_inj h
    refine ⟨fun c k hn => ?_, fun c k hn => ?_⟩
    · rw [f_9.1 c k (by omega), f_8.1 c k (by omega), f_7.1 c k (by omega), e_6, up2_ne (by omega), e_4, up2_ne (by omega), e_2, up2_ne (by omega)]
    · rw [f_9.2 c k hn, f_8.2 c k hn, f_7.2 c k hn]
  · rw [if_neg c_1] at h
    obtain ⟨rfl, rfl, rfl⟩ := sm_inj h
    refine ⟨fun c k hn => ?_, fun c k hn => ?_⟩
    · rw [e_4, up2_ne (by omega), e_2, up2_ne (by omega)]
    · rfl
set_option maxHeartbeats 2000000 in
theorem fr_C_X12_order_117 (N : Nat) (rec_94 : gI → gJ → Int32 → Int32 → Int32 → Int32 → Int32 → Int32 → Int32 → Int32 → Option (Int32 × gI × gJ)) (hrec_94 : ∀ (σ : gI) (τ : gJ) (x1 : Int32) (x2 : Int32) (x3 : Int32) (x4 : Int32) (x5 : Int32) (x6 : Int32) (x7 : Int32) (x8 : Int32) (r : Int32) (σ1 : gI) (τ1 : gJ), rec_94 σ τ x1 x2 x3 x4 x5 x6 x7 x8 = some (r, σ1, τ1) → (∀ c k : Nat, ¬ (c = 206 ∨ c = 207 ∨ c = 218 ∨ (c = 199 ∧ (k = 0 ∨ k = 1 ∨ k = 34))) → σ1 c k = σ c k) ∧ (∀ c k : Nat, c ≠ 200 → τ1 c k = τ c k)) (rec_117 : gI → gJ → Int32 → Int32 → Int32 → Int32 → Int32 → Int32 → Int32 → Int32 → Int32 → Option (Int32 × gI × gJ)) (hrec_117 : ∀ (σ : gI) (τ : gJ) (x1 : Int32) (x2 : Int32) (x3 : Int32) (x4 : Int32) (x5 : Int32) (x6 : Int32) (x7 : Int32) (x8 : Int32) (x9 : Int32) (r : Int32) (σ1 : gI) (τ1 : gJ), rec_117 σ τ x1 x2 x3 x4 x5 x6 x7 x8 x9 = some (r, σ1, τ1) → (∀ c k : Nat, ¬ (c = 206 ∨ c = 207 ∨ c = 218 ∨ (c = 199 ∧ (k = 0 ∨ k = 1 ∨ k = 34))) → σ1 c k = σ c k) ∧ (∀ c k : Nat, c ≠ 200 → τ1 c k = τ c k)) (σ : gI) (τ : gJ) (x1 : Int32) (x2 : Int32) (x3 : Int32) (x4 : Int32) (x5 : Int32) (x6 : Int32) (x7 : Int32) (x8 : Int32) (x9 : Int32) {r : Int32} {σ1 : gI} {τ1 : gJ} (h : C_X12_order_117 N rec_94 rec_117 σ τ x1 x2 x3 x4 x5 x6 x7 x8 x9 = some (r, σ1, τ1)) : (∀ c k : Nat, ¬ (c = 206 ∨ c = 207 ∨ c = 218 ∨ (c = 199 ∧ (k = 0 ∨ k = 1 ∨ k = 34))) → σ1 c k = σ c k) ∧ (∀ c k : Nat, c ≠ 200 → τ1 c k = τ c k) := by
  unfold C_X12_order_117 at h
  by_cases c_1 : imin 9 x8 < x9
  · rw [if_pos c_1] at h
    obtain ⟨v_2, e_2, h⟩ := nm_some h
    have f9 := hrec_94 σ τ x1 x2 x3 x4 x5 x6 x7 v_2 _ _ _ h
    refine ⟨fun c k hn => (f9.1 c k hn).trans ?_, fun c k hn => (f9.2 c k hn).trans ?_⟩
    · rfl
    · rfl
  · rw [if_neg c_1] at h
    obtain ⟨j_3, -, -, h⟩ := ck_some h
    obtain ⟨σ_4, e_4, h⟩ := nm_some h
    obtain ⟨j_5, -, -, h⟩ := ck_some h
    obtain ⟨σ_6, e_6, h⟩ := nm_some h
    obtain ⟨r_7, σ_7, τ_7, q_7, h⟩ := bd_some h
    have f_7 := fr_B_X12_savedAfter_0 N σ_6 τ ((1 <<< (x1 &&& 31)) ||| (1 <<< (x2 &&& 31))) 0 q_7
    by_cases c_2 : r_7 < 0
    · rw [if_pos c_2] at h
      obtain ⟨v_9, e_9, h⟩ := nm_some h
      have f9 := hrec_117 σ_7 τ_7 x1 x2 x3 x4 x5 x6 x7 x8 v_9 _ _ _ h
      refine ⟨fun c k hn => (f9.1 c k hn).trans ?_, fun c k hn => (f9.2 c k hn).trans ?_⟩
      · rw [f_7.1 c k (by omega), e_6, up2_ne (by omega), e_4, up2_ne (by omega)]
      · rw [f_7.2 c k]
    · rw [if_neg c_2] at h
      by_cases c_3 : x7 = 0
      · rw [if_pos c_3] at h
        obtain ⟨v_13, e_13, h⟩ := nm_some h
        obtain ⟨v_14, e_14, h⟩ := nm_some h
        have f9 := hrec_117 σ_7 τ_7 x1 x2 x3 x4 x8 x9 v_13 x8 v_14 _ _ _ h
        refine ⟨fun c k hn => (f9.1 c k hn).trans ?_, fun c k hn => (f9.2 c k hn).trans ?_⟩
        · rw [f_7.1 c k (by omega), e_6, up2_ne (by omega), e_4, up2_ne (by omega)]
        · rw [f_7.2 c k]
      · rw [if_neg c_3] at h
        obtain ⟨v_11, e_11, h⟩ := nm_some h
        obtain ⟨v_12, e_12, h⟩ := nm_some h
        have f9 := hrec_117 σ_7 τ_7 x1 x2 x3 x4 x8 x6 v_11 x8 v_12 _ _ _ h
        refine ⟨fun c k hn => (f9.1 c k hn).trans ?_, fun c k hn => (f9.2 c k hn).trans ?_⟩
        · rw [f_7.1 c k (by omega), e_6, up2_ne (by omega), e_4, up2_ne (by omega)]
        · rw [f_7.2 c k]
