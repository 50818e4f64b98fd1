set_option maxHeartbeats 2000000 in
theorem fr_B_X12_readsPlace_162 (N : Nat) (σ : gI) (τ : gJ) (x1 : Int32) (x2 : Int32) (y0 : Int32) {r : Int32} {σ1 : gI} {τ1 : gJ} (h : B_X12_readsPlace_162 N σ τ x1 x2 y0 = some (r, σ1, τ1)) : (∀ c k : Nat, ¬ (c = 209 ∨ c = 210 ∨ c = 211 ∨ c = 212 ∨ c = 213 ∨ c = 214 ∨ (c = 199 ∧ (k = 14 ∨ k = 21 ∨ k = 24))) → σ1 c k = σ c k) ∧ (∀ c k : Nat, τ1 c k = τ c k) := by
  unfold B_X12_readsPlace_162 at h
  obtain ⟨-, h⟩ := sbx_some h
  obtain ⟨r_2, σ_2, τ_2, q_2, h⟩ := bd_some h
  have f_2 := fr_B_X12_takesOf_0 N (sb_11.drop y0.toNatClampNeg) σ τ q_2
  by_cases c_1 : 0 ≤ r_2
  · rw [if_pos c_1] at h
    obtain ⟨j_4, -, -, h⟩ := ck_some h
    obtain ⟨σ_5, e_5, h⟩ := nm_some h
    by_cases c_2 : x2 = 4
    · rw [if_pos c_2] at h
      obtain ⟨-, h⟩ := sbx_some h
      obtain ⟨r_8, σ_8, τ_8, q_8, h⟩ := bd_some h
      have f_8 := fr_B_X12_takesOf_0 N (sb_11.drop r_2.toNatClampNeg) σ_5 τ_2 q_8
      by_cases c_3 : 0 ≤ r_8
      · rw [if_pos c_3] at h
        obtain ⟨σ_10, e_10, h⟩ := nm_some h
        obtain ⟨rfl, rfl, rfl⟩ := sm_inj h
        refine ⟨fun c k hn => ?_, fun c k => ?_⟩
        · rw [e_10, up2_ne (by omega), f_8.1 c k (by omega), e_5, up2_ne (by omega), f_2.1 c k (by omega)]
        · rw [f_8.2 c k, f_2.2 c k]
      · rw [if_neg c_3] at h
        obtain ⟨rfl, rfl, rfl⟩ := sm_inj h
        refine ⟨fun c k hn => ?_, fun c k => ?_⟩
        · rw [f_8.1 c k (by omega), e_5, up2_ne (by omega), f_2.1 c k (by omega)]
        · rw [f_8.2 c k, f_2.2 c k]
    · rw [if_neg c_2] at h
      obtain ⟨rfl, rfl, rfl⟩ := sm_inj h
      refine ⟨fun c k hn => ?_, fun c k => ?_⟩
      · rw [e_5, up2_ne (by omega), f_2.1 c k (by omega)]
      · rw [f_2.2 c k]
  · rw [if_neg c_1] at h
    obtain ⟨rfl, rfl, rfl⟩ := sm_inj h
    refine ⟨fun c k hn => ?_, fun c k => ?_⟩
    · rw [f_2.1 c k (by omega)]
    · rw [f_2.2 c k]
set_option maxHeartbeats 2000000 in
theorem fr_B_X12_readsPlace_0 (N : Nat) (σ : gI) (τ : gJ) {r : Int32} {σ1 : gI} {τ1 : gJ} (h : B_X12_readsPlace_0 N σ τ = some (r, σ1, τ1)) : (∀ c k : Nat, ¬ (c = 209 ∨ c = 210 ∨ c = 211 ∨ c = 212 ∨ c = 213 ∨ c = 214 ∨ (c = 199 ∧ (k = 14 ∨ k = 21 ∨ k = 24))) → σ1 c k = σ c k) ∧ (∀ c k : Nat, τ1 c k = τ c k) := by
  unfold B_X12_readsPlace_0 at h
  obtain ⟨v_1, e_1, h⟩ := nm_some h
  by_cases c_1 : v_1 = 12
  · rw [if_pos c_1] at h
    obtain ⟨rfl, rfl, rfl⟩ := sm_inj h
    refine ⟨fun c k hn => ?_, fun c k => ?_⟩
    · rfl
    · rfl
  · rw [if_neg c_1] at h
    obtain ⟨r_3, σ_3, τ_3, q_3, h⟩ := bd_some h
    have f_3 := fr_B_X12_takesOf_0 N sb_9 σ τ q_3
    by_cases c_2 : 0 ≤ r_3
    · rw [if_pos c_2] at h
      obtain ⟨j_5, -, -, h⟩ := ck_some h
      obtain ⟨σ_6, e_6, h⟩ := nm_some h
      obtain ⟨σ_7, e_7, h⟩ := nm_some h
      obtain ⟨σ_8, e_8, h⟩ := nm_some h
      obtain ⟨σ_9, e_9, h⟩ := nm_some h
      obtain ⟨σ_10, e_10, h⟩ := nm_some h
      by_cases c_3 : r_3 = 6
      · rw [if_pos c_3] at h
        obtain ⟨rfl, rfl, rfl⟩ := sm_inj h
        refine ⟨fun c k hn => ?_, fun c k => ?_⟩
        · rw [e_10, up2_ne (by omega), e_9, up2_ne (by omega), e_8, up2_ne (by omega), e_7, up2_ne (by omega), e_6, up2_ne (by omega), f_3.1 c k (by omega)]
        · rw [f_3.2 c k]
      · rw [if_neg c_3] at h
        obtain ⟨r_12, σ_12, τ_12, q_12, h⟩ := bd_some h
        have f_12 := fr_B_X12_readsLetter_0 N σ_10 τ_3 q_12
        obtain ⟨σ_13, e_13, h⟩ := nm_some h
        by_cases c_4 : σ_13 210 j_5 < 0
        · rw [if_pos c_4] at h
          by_cases c_5 : σ_13 210 j_5 < 0
          · rw [if_pos c_5] at h
            obtain ⟨rfl, rfl, rfl⟩ := sm_inj h
            refine ⟨fun c k hn => ?_, fun c k => ?_⟩
            · rw [e_13, up2_ne (by omega), f_12.1 c k (by omega), e_10, up2_ne (by omega), e_9, up2_ne (by omega), e_8, up2_ne (by omega), e_7, up2_ne (by omega), e_6, up2_ne (by omega), f_3.1 c k (by omega)]
            · rw [f_12.2 c k, f_3.2 c k]
          · rw [if_neg c_5] at h
            obtain ⟨rfl, rfl, rfl⟩ := sm_inj h
            refine ⟨fun c k hn => ?_, fun c k => ?_⟩
            · rw [e_13, up2_ne (by omega), f_12.1 c k (by omega), e_10, up2_ne (by omega), e_9, up2_ne (by omega), e_8, up2_ne (by omega), e_7, up2_ne (by omega), e_6, up2_ne (by omega), f_3.1 c k (by omega)]
            · rw [f_12.2 c k, f_3.2 c k]
        · rw [if_neg c_4] at h
          by_cases c_6 : r_3 = 0
          · rw [if_pos c_6] at h
            by_cases c_7 : σ_13 210 j_5 < 0
            · rw [if_pos c_7] at h
              obtain ⟨rfl, rfl, rfl⟩ := sm_inj h
              refine ⟨fun c k hn => ?_, fun c k => ?_⟩
              · rw [e_13, up2_ne (by omega), f_12.1 c k (by omega), e_10, up2_ne (by omega), e_9, up2_ne (by omega), e_8, up2_ne (by omega), e_7, up2_ne (by omega), e_6, up2_ne (by omega), f_3.1 c k (by omega)]
              · rw [f_12.2 c k, f_3.2 c k]
            · rw [if_neg c_7] at h
              obtain ⟨rfl, rfl, rfl⟩ := sm_inj h
              refine ⟨fun c k hn => ?_, fun c k => ?_⟩
              · rw [e_13, up2_ne (by omega), f_12.1 c k (by omega), e_10, up2_ne (by omega), e_9, up2_ne (by omega), e_8, up2_ne (by omega), e_7, up2_ne (by omega), e_6, up2_ne (by omega), f_3.1 c k (by omega)]
              · rw [f_12.2 c k, f_3.2 c k]
          · rw [if_neg c_6] at h
            by_cases c_8 : r_3 = 1
            · rw [if_pos c_8] at h
              obtain ⟨r_20, σ_20, τ_20, q_20, h⟩ := bd_some h
              have f_20 := fr_B_X12_readsLetter_0 N σ_13 τ_12 q_20
              obtain ⟨σ_21, e_21, h⟩ := nm_some h
              by_cases c_9 : σ_21 211 j_5 < 0
              · rw [if_pos c_9] at h
                obtain ⟨rfl, rfl, rfl⟩ := sm_inj h
                refine ⟨fun c k hn => ?_, fun c k => ?_⟩
                · rw [e_21, up2_ne (by omega), f_20.1 c k (by omega), e_13, up2_ne (by omega), f_12.1 c k (by omega), e_10, up2_ne (by omega), e_9, up2_ne (by omega), e_8, up2_ne (by omega), e_7, up2_ne (by omega), e_6, up2_ne (by omega), f_3.1 c k (by omega)]
                · rw [f_20.2 c k, f_12.2 c k, f_3.2 c k]
              · rw [if_neg c_9] at h
                obtain ⟨rfl, rfl, rfl⟩ := sm_inj h
                refine ⟨fun c k hn => ?_, fun c k => ?_⟩
                · rw [e_21, up2_ne (by omega), f_20.1 c k (by omega), e_13, up2_ne (by omega), f_12.1 c k (by omega), e_10, up2_ne (by omega), e_9, up2_ne (by omega), e_8, up2_ne (by omega), e_7, up2_ne (by omega), e_6, up2_ne (by omega), f_3.1 c k (by omega)]
                · rw [f_20.2 c k, f_12.2 c k, f_3.2 c k]
            · rw [if_neg c_8] at h
              by_cases c_10 : r_3 = 4
              · rw [if_pos c_10] at h
                have f9 := fr_B_X12_readsPlace_162 N σ_13 τ_12 v_1 r_3 0 h
                refine ⟨fun c k hn => (f9.1 c k hn).trans ?_, fun c k => (f9.2 c k).trans ?_⟩
                · rw [e_13, up2_ne (by omega), f_12.1 c k (by omega), e_10, up2_ne (by omega), e_9, up2_ne (by omega), e_8, up2_ne (by omega), e_7, up2_ne (by omega), e_6, up2_ne (by omega), f_3.1 c k (by omega)]
                · rw [f_12.2 c k, f_3.2 c k]
              · rw [if_neg c_10] at h
                by_cases c_11 : r_3 = 5
                · rw [if_pos c_11] at h
                  have f9 := fr_B_X12_readsPlace_162 N σ_13 τ_12 v_1 r_3 2 h
                  refine ⟨fun c k hn => (f9.1 c k hn).trans ?_, fun c k => (f9.2 c k).trans ?_⟩
                  · rw [e_13, up2_ne (by omega), f_12.1 c k (by omega), e_10, up2_ne (by omega), e_9, up2_ne (by omega), e_8, up2_ne (by omega), e_7, up2_ne (by omega), e_6, up2_ne (by omega), f_3.1 c k (by omega)]
                  · rw [f_12.2 c k, f_3.2 c k]
                · rw [if_neg c_11] at h
                  have f9 := fr_B_X12_readsPlace_162 N σ_13 τ_12 v_1 r_3 1 h
                  refine ⟨fun c k hn => (f9.1 c k hn).trans ?_, fun c k => (f9.2 c k).trans ?_⟩
                  · rw [e_13, up2_ne (by omega), f_12.1 c k (by omega), e_10, up2_ne (by omega), e_9, up2_ne (by omega), e_8, up2_ne (by omega), e_7, up2_ne (by omega), e_6, up2_ne (by omega), f_3.1 c k (by omega)]
                  · rw [f_12.2 c k, f_3.2 c k]
    · rw [if_neg c_2] at h
      obtain ⟨rfl, rfl, rfl⟩ := sm_inj h
      refine ⟨fun c k hn => ?_, fun c k => ?_⟩
      · rw [f_3.1 c k (by omega)]
      · rw [f_3.2 c k]
set_option maxHeartbeats 2000000 in
theorem fr_C_X12_town_244 (N : Nat) (rec_244 : gI → gJ → Int32 → Option (Int32 × gI × gJ)) (hrec_244 : ∀ (σ : gI) (τ : gJ) (x5 : Int32) (r : Int32) (σ1 : gI) (τ1 : gJ), rec_244 σ τ x5 = some (r, σ1, τ1) → (∀ c k : Nat, ¬ (c = 201 ∨ c = 202 ∨ c = 203 ∨ c = 204 ∨ c = 206 ∨ c = 209 ∨ c = 210 ∨ c = 211 ∨ c = 212 ∨ c = 213 ∨ c = 214 ∨ c = 231 ∨ (c = 199 ∧ (k = 0 ∨ k = 3 ∨ k = 13 ∨ k = 14 ∨ k = 15 ∨ k = 16 ∨ k = 21 ∨ k = 24 ∨ k = 36 ∨ k = 52))) → σ1 c k = σ c k) ∧ (∀ c k : Nat, τ1 c k = τ c k)) (σ : gI) (τ : gJ) (x5 : Int32) {r : Int32} {σ1 : gI} {τ1 : gJ} (h : C_X12_town_244 N rec_244 σ τ x5 = some (r, σ1, τ1)) : (∀ c k : Nat, ¬ (c = 201 ∨ c = 202 ∨ c = 203 ∨ c = 204 ∨ c = 206 ∨ c = 209 ∨ c = 210 ∨ c = 211 ∨ c = 212 ∨ c = 213 ∨ c = 214 ∨ c = 231 ∨ (c = 199 ∧ (k = 0 ∨ k = 3 ∨ k = 13 ∨ k = 14 ∨ k = 15 ∨ k = 16 ∨ k = 21 ∨ k = 24 ∨ k = 36 ∨ k = 52))) → σ1 c k = σ c k) ∧ (∀ c k : Nat, τ1 c k = τ c k) := by
  unfold C_X12_town_244 at h
  by_cases c_1 : 3 ≤ x5
  · rw [if_pos c_1] at h
    obtain ⟨rfl, rfl, rfl⟩ := sm_inj h
    refine ⟨fun c k hn => ?_, fun c k => ?_⟩
    · rfl
    · rfl
  · rw [if_neg c_1] at h
    obtain ⟨j_2, -, -, h⟩ := ck_some h
    obtain ⟨σ_3, e_3, h⟩ := nm_some h
    obtain ⟨v_4, e_4, h⟩ := nm_some h
    have f9 := hrec_244 σ_3 τ v_4 _ _ _ h
    refine ⟨fun c k hn => (f9.1 c k hn).trans ?_, fun c k => (f9.2 c k).trans ?_⟩
    · rw [e_3, up2_ne (by omega)]
    · rfl
theorem fr_H_X12_town_244 (N : Nat) : ∀ (n : Nat) (σ : gI) (τ : gJ) (x5 : Int32) (r : Int32) (σ1 : gI) (τ1 : gJ), H_X12_town_244 N n σ τ x5 = some (r, σ1, τ1) → (∀ c k : Nat, ¬ (c = 201 ∨ c = 202 ∨ c = 203 ∨ c = 204 ∨ c = 206 ∨ c = 209 ∨ c = 210 ∨ c = 211 ∨ c = 212 ∨ c = 213 ∨ c = 214 ∨ c = 231 ∨ (c = 199 ∧ (k = 0 ∨ k = 3 ∨ k = 13 ∨ k = 14 ∨ k = 15 ∨ k = 16 ∨ k = 21 ∨ k = 24 ∨ k = 36 ∨ k = 52))) → σ1 c k = σ c k) ∧ (∀ c k : Nat, τ1 c k = τ c k) := by
  intro n
  induction n with
  | zero => intro σ τ x5 r σ1 τ1 h; cases h
  | succ n ih =>
    intro σ τ x5 r σ1 τ1 h
    exact fr_C_X12_town_244 N (H_X12_town_244 N n) ih σ τ x5 h
set_option maxHeartbeats 2000000 in
theorem fr_C_X12_town_210 (N : Nat) (rec_210 : gI → gJ → Int32 → Option (Int32 × gI × gJ)) (hrec_210 : ∀ (σ : gI) (τ : gJ) (x5 : Int32) (r : Int32) (σ1 : gI) (τ1 : gJ), rec_210 σ τ x5 = some (r, σ1, τ1) → (∀ c k : Nat, ¬ (c = 201 ∨ c = 202 ∨ c = 203 ∨ c = 204 ∨ c = 206 ∨ c = 209 ∨ c = 210 ∨ c = 211 ∨ c = 212 ∨ c = 213 ∨ c = 214 ∨ c = 231 ∨ (c = 199 ∧ (k = 0 ∨ k = 3 ∨ k = 13 ∨ k = 14 ∨ k = 15 ∨ k = 16 ∨ k = 21 ∨ k = 24 ∨ k = 36 ∨ k = 52))) → σ1 c k = σ c k) ∧ (∀ c k : Nat, τ1 c k = τ c k)) (σ : gI) (τ : gJ) (x5 : Int32) {r : Int32} {σ1 : gI} {τ1 : gJ} (h : C_X12_town_210 N rec_210 σ τ x5 = some (r, σ1, τ1)) : (∀ c k : Nat, ¬ (c = 201 ∨ c = 202 ∨ c = 203 ∨ c = 204 ∨ c = 206 ∨ c = 209 ∨ c = 210 ∨ c = 211 ∨ c = 212 ∨ c = 213 ∨ c = 214 ∨ c = 231 ∨ (c = 199 ∧ (k = 0 ∨ k = 3 ∨ k = 13 ∨ k = 14 ∨ k = 15 ∨ k = 16 ∨ k = 21 ∨ k = 24 ∨ k = 36 ∨ k = 52))) → σ1 c k = σ c k) ∧ (∀ c k : Nat, τ1 c k = τ c k) := by
  unfold C_X12_town_210 at h
  by_cases c_1 : 45 ≤ x5
  · rw [if_pos c_1] at h
    obtain ⟨σ_2, e_2, h⟩ := nm_some h
    obtain ⟨σ_3, e_3, h⟩ := nm_some h
    have f9 := fr_H_X12_town_244 N N σ_3 τ 0 _ _ _ h
    refine ⟨fun c k hn => (f9.1 c k hn).trans ?_, fun c k => (f9.2 c k).trans ?_⟩
    · rw [e_3, up2_ne (by omega), e_2, up2_ne (by omega)]
    · rfl
  · rw [if_neg c_1] at h
    obtain ⟨j_4, -, -, h⟩ := ck_some h
    obtain ⟨σ_5, e_5, h⟩ := nm_some h
    obtain ⟨v_6, e_6, h⟩ := nm_some h
    have f9 := hrec_210 σ_5 τ v_6 _ _ _ h
    refine ⟨fun c k hn => (f9.1 c k hn).trans ?_, fun c k => (f9.2 c k).trans ?_⟩
    · rw [e_5, up2_ne (by omega)]
    · rfl
theorem fr_H_X12_town_210 (N : Nat) : ∀ (n : Nat) (σ : gI) (τ : gJ) (x5 : Int32) (r : Int32) (σ1 : gI) (τ1 : gJ), H_X12_town_210 N n σ τ x5 = some (r, σ1, τ1) → (∀ c k : Nat, ¬ (c = 201 ∨ c = 202 ∨ c = 203 ∨ c = 204 ∨ c = 206 ∨ c = 209 ∨ c = 210 ∨ c = 211 ∨ c = 212 ∨ c = 213 ∨ c = 214 ∨ c = 231 ∨ (c = 199 ∧ (k = 0 ∨ k = 3 ∨ k = 13 ∨ k = 14 ∨ k = 15 ∨ k = 16 ∨ k = 21 ∨ k = 24 ∨ k = 36 ∨ k = 52))) → σ1 c k = σ c k) ∧ (∀ c k : Nat, τ1 c k = τ c k) := by
  intro n
  induction n with
  | zero => intro σ τ x5 r σ1 τ1 h; cases h
  | succ n ih =>
    intro σ τ x5 r σ1 τ1 h
    exact fr_C_X12_town_210 N (H_X12_town_210 N n) ih σ τ x5 h
set_option maxHeartbeats 2000000 in
theorem fr_C_X12_town_136 (N : Nat) (rec_136 : gI → gJ → Int32 → Option (Int32 × gI × gJ)) (hrec_136 : ∀ (σ : gI) (τ : gJ) (x5 : Int32) (r : Int32) (σ1 : gI) (τ1 : gJ), rec_136 σ τ x5 = some (r, σ1, τ1) → (∀ c k : Nat, ¬ (c = 201 ∨ c = 202 ∨ c = 203 ∨ c = 204 ∨ c = 206 ∨ c = 209 ∨ c = 210 ∨ c = 211 ∨ c = 212 ∨ c = 213 ∨ c = 214 ∨ c = 231 ∨ (c = 199 ∧ (k = 0 ∨ k = 3 ∨ k = 13 ∨ k = 14 ∨ k = 15 ∨ k = 16 ∨ k = 21 ∨ k = 24 ∨ k = 36 ∨ k = 52))) → σ1 c k = σ c k) ∧ (∀ c k : Nat, τ1 c k = τ c k)) (σ : gI) (τ : gJ) (x5 : Int32) {r : Int32} {σ1 : gI} {τ1 : gJ} (h : C_X12_town_136 N rec_136 σ τ x5 = some (r, σ1, τ1)) : (∀ c k : Nat, ¬ (c = 201 ∨ c = 202 ∨ c = 203 ∨ c = 204 ∨ c = 206 ∨ c = 209 ∨ c = 210 ∨ c = 211 ∨ c = 212 ∨ c = 213 ∨ c = 214 ∨ c = 231 ∨ (c = 199 ∧ (k = 0 ∨ k = 3 ∨ k = 13 ∨ k = 14 ∨ k = 15 ∨ k = 16 ∨ k = 21 ∨ k = 24 ∨ k = 36 ∨ k = 52))) → σ1 c k = σ c k) ∧ (∀ c k : Nat, τ1 c k = τ c k) := by
  unfold C_X12_town_136 at h
  by_cases c_1 : σ 199 3 ≤ x5
  · rw [if_pos c_1] at h
    have f9 := fr_H_X12_town_210 N N σ τ 0 _ _ _ h
    refine ⟨fun c k hn => (f9.1 c k hn).trans ?_, fun c k => (f9.2 c k).trans ?_⟩
    · rfl
    · rfl
  · rw [if_neg c_1] at h
    obtain ⟨j_2, -, -, h⟩ := ck_some h
    obtain ⟨σ_3, e_3, h⟩ := nm_some h
    obtain ⟨σ_4, e_4, h⟩ := nm_some h
    obtain ⟨σ_5, e_5, h⟩ := nm_some h
    obtain ⟨σ_6, e_6, h⟩ := nm_some h
    obtain ⟨v_7, e_7, h⟩ := nm_some h
    have f9 := hrec_136 σ_6 τ v_7 _ _ _ h
    refine ⟨fun c k hn => (f9.1 c k hn).trans ?_, fun c k => (f9.2 c k).trans ?_⟩
    · rw [e_6, up2_ne (by omega), e_5, up2_ne (by omega), e_4, up2_ne (by omega), e_3, up2_ne (by omega)]
    · rfl
theorem fr_H_X12_town_136 (N : Nat) : ∀ (n : Nat) (σ : gI) (τ : gJ) (x5 : Int32) (r : Int32) (σ1 : gI) (τ1 : gJ), H_X12_town_136 N n σ τ x5 = some (r, σ1, τ1) → (∀ c k : Nat, ¬ (c = 201 ∨ c = 202 ∨ c = 203 ∨ c = 204 ∨ c = 206 ∨ c = 209 ∨ c = 210 ∨ c = 211 ∨ c = 212 ∨ c = 213 ∨ c = 214 ∨ c = 231 ∨ (c = 199 ∧ (k = 0 ∨ k = 3 ∨ k = 13 ∨ k = 14 ∨ k = 15 ∨ k = 16 ∨ k = 21 ∨ k = 24 ∨ k = 36 ∨ k = 52))) → σ1 c k = σ c k) ∧ (∀ c k : Nat, τ1 c k = τ c k) := by
  intro n
  induction n with
  | zero => intro σ τ x5 r σ1 τ1 h; cases h
  | succ n ih =>
    intro σ τ x5 r σ1 τ1 h
    exact fr_C_X12_town_136 N (H_X12_town_136 N n) ih σ τ x5 h
set_option maxHeartbeats 2000000 in
theorem fr_C_X12_town_86 (N : Nat) (rec_86 : gI → gJ → Int32 → Option (Int32 × gI × gJ)) (hrec_86 : ∀ (σ : gI) (τ : gJ) (x5 : Int32) (r : Int32) (σ1 : gI) (τ1 : gJ), rec_86 σ τ x5 = some (r, σ1, τ1) → (∀ c k : Nat, ¬ (c = 201 ∨ c = 202 ∨ c = 203 ∨ c = 204 ∨ c = 206 ∨ c = 209 ∨ c = 210 ∨ c = 211 ∨ c = 212 ∨ c = 213 ∨ c = 214 ∨ c = 231 ∨ (c = 199 ∧ (k = 0 ∨ k = 3 ∨ k = 13 ∨ k = 14 ∨ k = 15 ∨ k = 16 ∨ k = 21 ∨ k = 24 ∨ k = 36 ∨ k = 52))) → σ1 c k = σ c k) ∧ (∀ c k : Nat, τ1 c k = τ c k)) (σ : gI) (τ : gJ) (x5 : Int32) {r : Int32} {σ1 : gI} {τ1 : gJ} (h : C_X12_town_86 N rec_86 σ τ x5 = some (r, σ1, τ1)) : (∀ c k : Nat, ¬ (c = 201 ∨ c = 202 ∨ c = 203 ∨ c = 204 ∨ c = 206 ∨ c = 209 ∨ c = 210 ∨ c = 211 ∨ c = 212 ∨ c = 213 ∨ c = 214 ∨ c = 231 ∨ (c = 199 ∧ (k = 0 ∨ k = 3 ∨ k = 13 ∨ k = 14 ∨ k = 15 ∨ k = 16 ∨ k = 21 ∨ k = 24 ∨ k = 36 ∨ k = 52))) → σ1 c k = σ c k) ∧ (∀ c k : Nat, τ1 c k = τ c k) := by
  unfold C_X12_town_86 at h
  by_cases c_1 : σ 199 24 ≤ x5
  · rw [if_pos c_1] at h
    obtain ⟨σ_2, e_2, h⟩ := nm_some h
    have f9 := fr_H_X12_town_136 N N σ_2 τ 0 _ _ _ h
    refine ⟨fun c k hn => (f9.1 c k hn).trans ?_, fun c k => (f9.2 c k).trans ?_⟩
    · rw [e_2, up2_ne (by omega)]
    · rfl
  · rw [if_neg c_1] at h
    obtain ⟨j_3, -, -, h⟩ := ck_some h
    by_cases c_2 : σ 213 j_3 < σ 199 21
    · rw [if_pos c_2] at h
      obtain ⟨v_5, e_5, h⟩ := nm_some h
      have f9 := hrec_86 σ τ v_5 _ _ _ h
      refine ⟨fun c k hn => (f9.1 c k hn).trans ?_, fun c k => (f9.2 c k).trans ?_⟩
      · rfl
      · rfl
    · rw [if_neg c_2] at h
      obtain ⟨rfl, rfl, rfl⟩ := sm_inj h
      refine ⟨fun c k hn => ?_, fun c k => ?_⟩
      · rfl
      · rfl
theorem fr_H_X12_town_86 (N : Nat) : ∀ (n : Nat) (σ : gI) (τ : gJ) (x5 : Int32) (r : Int32) (σ1 : gI) (τ1 : gJ), H_X12_town_86 N n σ τ x5 = some (r, σ1, τ1) → (∀ c k : Nat, ¬ (c = 201 ∨ c = 202 ∨ c = 203 ∨ c = 204 ∨ c = 206 ∨ c = 209 ∨ c = 210 ∨ c = 211 ∨ c = 212 ∨ c = 213 ∨ c = 214 ∨ c = 231 ∨ (c = 199 ∧ (k = 0 ∨ k = 3 ∨ k = 13 ∨ k = 14 ∨ k = 15 ∨ k = 16 ∨ k = 21 ∨ k = 24 ∨ k = 36 ∨ k = 52))) → σ1 c k = σ c k) ∧ (∀ c k : Nat, τ1 c k = τ c k) := by
  intro n
  induction n with
  | zero => intro σ τ x5 r σ1 τ1 h; cases h
  | succ n ih =>
    intro σ τ x5 r σ1 τ1 h
    exact fr_C_X12_town_86 N (H_X12_town_86 N n) ih σ τ x5 h
set_option maxHeartbeats 2000000 in
theorem fr_C_X12_town_34 (N : Nat) (rec_34 : gI → gJ → Int32 → Int32 → Int32 → Option (Int32 × gI × gJ)) (hrec_34 : ∀ (σ : gI) (τ : gJ) (x1 : Int32) (x2 : Int32) (x3 : Int32) (r : Int32) (σ1 : gI) (τ1 : gJ), rec_34 σ τ x1 x2 x3 = some (r, σ1, τ1) → (∀ c k : Nat, ¬ (c = 201 ∨ c = 202 ∨ c = 203 ∨ c = 204 ∨ c = 206 ∨ c = 209 ∨ c = 210 ∨ c = 211 ∨ c = 212 ∨ c = 213 ∨ c = 214 ∨ c = 231 ∨ (c = 199 ∧ (k = 0 ∨ k = 3 ∨ k = 13 ∨ k = 14 ∨ k = 15 ∨ k = 16 ∨ k = 21 ∨ k = 24 ∨ k = 36 ∨ k = 52))) → σ1 c k = σ c k) ∧ (∀ c k : Nat, τ1 c k = τ c k)) (σ : gI) (τ : gJ) (x1 : Int32) (x2 : Int32) (x3 : Int32) {r : Int32} {σ1 : gI} {τ1 : gJ} (h : C_X12_town_34 N rec_34 σ τ x1 x2 x3 = some (r, σ1, τ1)) : (∀ c k : Nat, ¬ (c = 201 ∨ c = 202 ∨ c = 203 ∨ c = 204 ∨ c = 206 ∨ c = 209 ∨ c = 210 ∨ c = 211 ∨ c = 212 ∨ c = 213 ∨ c = 214 ∨ c = 231 ∨ (c = 199 ∧ (k = 0 ∨ k = 3 ∨ k = 13 ∨ k = 14 ∨ k = 15 ∨ k = 16 ∨ k = 21 ∨ k = 24 ∨ k = 36 ∨ k = 52))) → σ1 c k = σ c k) ∧ (∀ c k : Nat, τ1 c k = τ c k) := by
  unfold C_X12_town_34 at h
  by_cases c_1 : x3 = 0
  · rw [if_pos c_1] at h
    obtain ⟨r_2, σ_2, τ_2, q_2, h⟩ := bd_some h
    have f_2 := fr_B_X12_faultOf_0 N σ τ x1 76 x2 q_2
    by_cases c_2 : 0 ≤ r_2
    · rw [if_pos c_2] at h
      have f9 := fr_H_X12_town_86 N N σ_2 τ_2 0 _ _ _ h
      refine ⟨fun c k hn => (f9.1 c k hn).trans ?_, fun c k => (f9.2 c k).trans ?_⟩
      · rw [f_2.1 c k id]
      · rw [f_2.2 c k]
    · rw [if_neg c_2] at h
      obtain ⟨rfl, rfl, rfl⟩ := sm_inj h
      refine ⟨fun c k hn => ?_, fun c k => ?_⟩
      · rw [f_2.1 c k id]
      · rw [f_2.2 c k]
  · rw [if_neg c_1] at h
    obtain ⟨r_4, σ_4, τ_4, q_4, h⟩ := bd_some h
    have f_4 := fr_B_X12_readsPlace_0 N σ τ q_4
    by_cases c_3 : r_4 = 0
    · rw [if_pos c_3] at h
      have f9 := hrec_34 σ_4 τ_4 x1 r_4 0 _ _ _ h
      refine ⟨fun c k hn => (f9.1 c k hn).trans ?_, fun c k => (f9.2 c k).trans ?_⟩
      · rw [f_4.1 c k (by omega)]
      · rw [f_4.2 c k]
    · rw [if_neg c_3] at h
      obtain ⟨r_6, σ_6, τ_6, q_6, h⟩ := bd_some h
      have f_6 := fr_B_X12_takes_0 N σ_4 τ_4 59 q_6
      by_cases c_4 : r_6 = 0
      · rw [if_pos c_4] at h
        have f9 := hrec_34 σ_6 τ_6 x1 r_4 0 _ _ _ h
        refine ⟨fun c k hn => (f9.1 c k hn).trans ?_, fun c k => (f9.2 c k).trans ?_⟩
        · rw [f_6.1 c k (by omega), f_4.1 c k (by omega)]
        · rw [f_6.2 c k, f_4.2 c k]
      · rw [if_neg c_4] at h
        have f9 := hrec_34 σ_6 τ_6 x1 r_4 1 _ _ _ h
        refine ⟨fun c k hn => (f9.1 c k hn).trans ?_, fun c k => (f9.2 c k).trans ?_⟩
        · rw [f_6.1 c k (by omega), f_4.1 c k (by omega)]
        · rw [f_6.2 c k, f_4.2 c k]
theorem fr_H_X12_town_34 (N : Nat) : ∀ (n : Nat) (σ : gI) (τ : gJ) (x1 : Int32) (x2 : Int32) (x3 : Int32) (r : Int32) (σ1 : gI) (τ1 : gJ), H_X12_town_34 N n σ τ x1 x2 x3 = some (r, σ1, τ1) → (∀ c k : Nat, ¬ (c = 201 ∨ c = 202 ∨ c = 203 ∨ c = 204 ∨ c = 206 ∨ c = 209 ∨ c = 210 ∨ c = 211 ∨ c = 212 ∨ c = 213 ∨ c = 214 ∨ c = 231 ∨ (c = 199 ∧ (k = 0 ∨ k = 3 ∨ k = 13 ∨ k = 14 ∨ k = 15 ∨ k = 16 ∨ k = 21 ∨ k = 24 ∨ k = 36 ∨ k = 52))) → σ1 c k = σ c k) ∧ (∀ c k : Nat, τ1 c k = τ c k) := by
  intro n
  induction n with
  | zero => intro σ τ x1 x2 x3 r σ1 τ1 h; cases h
  | succ n ih =>
    intro σ τ x1 x2 x3 r σ1 τ1 h
    exact fr_C_X12_town_34 N (H_X12_town_34 N n) ih σ τ x1 x2 x3 h
set_option maxHeartbeats 2000000 in
theorem fr_B_X12_town_0 (N : Nat) (σ : gI) (τ : gJ) {r : Int32} {σ1 : gI} {τ1 : gJ} (h : B_X12_town_0 N σ τ = some (r, σ1, τ1)) : (∀ c k : Nat, ¬ (c = 201 ∨ c = 202 ∨ c = 203 ∨ c = 204 ∨ c = 206 ∨ c = 209 ∨ c = 210 ∨ c = 211 ∨ c = 212 ∨ c = 213 ∨ c = 214 ∨ c = 231 ∨ (c = 199 ∧ (k = 0 ∨ k = 3 ∨ k = 13 ∨ k = 14 ∨ k = 15 ∨ k = 16 ∨ k = 21 ∨ k = 24 ∨ k = 36 ∨ k = 52))) → σ1 c k = σ c k) ∧ (∀ c k : Nat, τ1 c k = τ c k) := by
  unfold B_X12_town_0 at h
  obtain ⟨σ_1, e_1, h⟩ := nm_some h
  obtain ⟨r_2, σ_2, τ_2, q_2, h⟩ := bd_some h
  have f_2 := fr_B_X12_begins_0 N σ_1 τ 76 q_2
  obtain ⟨σ_3, e_3, h⟩ := nm_some h
  obtain ⟨σ_4, e_4, h⟩ := nm_some h
  by_cases c_1 : r_2 ≤ 0
  · rw [if_pos c_1] at h
    have f9 := fr_H_X12_town_34 N 14 σ_4 τ_2 r_2 1 0 _ _ _ h
    refine ⟨fun c k hn => (f9.1 c k hn).trans ?_, fun c k => (f9.2 c k).trans ?_⟩
    · rw [e_4, up2_ne (by omega), e_3, up2_ne (by omega), f_2.1 c k (by omega), e_1, up2_ne (by omega)]
    · rw [f_2.2 c k]
  · rw [if_neg c_1] at h
    have f9 := fr_H_X12_town_34 N 14 σ_4 τ_2 r_2 1 1 _ _ _ h
    refine ⟨fun c k hn => (f9.1 c k hn).trans ?_, fun c k => (f9.2 c k).trans ?_⟩
    · rw [e_4, up2_ne (by omega), e_3, up2_ne (by omega), f_2.1 c k (by omega), e_1, up2_ne (by omega)]
    · rw [f_2.2 c k]
