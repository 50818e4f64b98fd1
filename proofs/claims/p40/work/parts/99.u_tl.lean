set_option maxHeartbeats 2000000 in
theorem fs_B_X12_day_134 (N : Nat) (σ : gI) (τ : gJ) (x5 : Int32) (y0 : Int32) {r : Int32} {σ1 : gI} {τ1 : gJ} (h : B_X12_day_134 N σ τ x5 y0 = some (r, σ1, τ1)) : (∀ c k : Nat, ¬ (c = 206 ∨ c = 218 ∨ c = 219 ∨ c = 220 ∨ c = 221 ∨ c = 222 ∨ c = 223 ∨ (c = 199 ∧ (k = 1 ∨ k = 14 ∨ k = 34 ∨ k = 36 ∨ k = 42 ∨ k = 43))) → σ1 c k = σ c k) ∧ (∀ c k : Nat, c ≠ 200 → τ1 c k = τ c k) := by
  unfold B_X12_day_134 at h
  obtain ⟨r_1, σ_1, τ_1, q_1, h⟩ := bd_some h
  have f_1 := fr_B_X12_flag_0 N σ τ y0 q_1
  obtain ⟨r_2, σ_2, τ_2, q_2, h⟩ := bd_some h
  have f_2 := fr_B_X12_enters_0 N σ_1 τ_1 r_1.toInt64 q_2
  obtain ⟨r_3, σ_3, τ_3, q_3, h⟩ := bd_some h
  have f_3 := fr_B_X12_enters_0 N σ_2 τ_2 ((σ_2 199 43).toInt64) q_3
  by_cases c_1 : x5 ≤ 0
  · rw [if_pos c_1] at h
    obtain ⟨rfl, rfl, rfl⟩ := sm_inj h
    refine ⟨fun c k hn => ?_, fun c k hn => ?_⟩
    · rw [f_3.1 c k (by omega), f_2.1 c k (by omega), f_1.1 c k id]
    · rw [f_3.2 c k hn, f_2.2 c k hn, f_1.2 c k]
  · rw [if_neg c_1] at h
    obtain ⟨r_5, σ_5, τ_5, q_5, h⟩ := bd_some h
    have f_5 := fr_B_X12_adds_0 N σ_3 τ_3 x5 q_5
    obtain ⟨rfl, rfl, rfl⟩ := sm_inj h
    refine ⟨fun c k hn => ?_, fun c k hn => ?_⟩
    · rw [f_5.1 c k (by omega), f_3.1 c k (by omega), f_2.1 c k (by omega), f_1.1 c k id]
    · rw [f_5.2 c k, f_3.2 c k hn, f_2.2 c k hn, f_1.2 c k]
set_option maxHeartbeats 2000000 in
theorem fs_C_X12_day_90 (N : Nat) (rec_90 : gI → gJ → Int32 → Option (Int32 × gI × gJ)) (hrec_90 : ∀ (σ : gI) (τ : gJ) (x5 : Int32) (r : Int32) (σ1 : gI) (τ1 : gJ), rec_90 σ τ x5 = some (r, σ1, τ1) → (∀ c k : Nat, ¬ (c = 206 ∨ c = 218 ∨ c = 219 ∨ c = 220 ∨ c = 221 ∨ c = 222 ∨ c = 223 ∨ (c = 199 ∧ (k = 1 ∨ k = 14 ∨ k = 34 ∨ k = 36 ∨ k = 42 ∨ k = 43))) → σ1 c k = σ c k) ∧ (∀ c k : Nat, c ≠ 200 → τ1 c k = τ c k)) (σ : gI) (τ : gJ) (x5 : Int32) {r : Int32} {σ1 : gI} {τ1 : gJ} (h : C_X12_day_90 N rec_90 σ τ x5 = some (r, σ1, τ1)) : (∀ c k : Nat, ¬ (c = 206 ∨ c = 218 ∨ c = 219 ∨ c = 220 ∨ c = 221 ∨ c = 222 ∨ c = 223 ∨ (c = 199 ∧ (k = 1 ∨ k = 14 ∨ k = 34 ∨ k = 36 ∨ k = 42 ∨ k = 43))) → σ1 c k = σ c k) ∧ (∀ c k : Nat, c ≠ 200 → τ1 c k = τ c k) := by
  unfold C_X12_day_90 at h
  by_cases c_1 : σ 199 42 ≤ x5
  · rw [if_pos c_1] at h
    obtain ⟨σ_2, e_2, h⟩ := nm_some h
    by_cases c_2 : σ_2 199 42 ≤ x5
    · rw [if_pos c_2] at h
      have f9 := fs_B_X12_day_134 N σ_2 τ x5 0 h
      refine ⟨fun c k hn => (f9.1 c k hn).trans ?_, fun c k hn => (f9.2 c k hn).trans ?_⟩
      · rw [e_2, up2_ne (by omega)]
      · rfl
    · rw [if_neg c_2] at h
      have f9 := fs_B_X12_day_134 N σ_2 τ x5 1 h
      refine ⟨fun c k hn => (f9.1 c k hn).trans ?_, fun c k hn => (f9.2 c k hn).trans ?_⟩
      · rw [e_2, up2_ne (by omega)]
      · rfl
  · rw [if_neg c_1] at h
    obtain ⟨r_4, σ_4, τ_4, q_4, h⟩ := bd_some h
    have f_4 := fr_B_X12_does_0 N σ τ x5 q_4
    by_cases c_3 : r_4 = 0
    · rw [if_pos c_3] at h
      obtain ⟨σ_6, e_6, h⟩ := nm_some h
      by_cases c_4 : σ_6 199 42 ≤ x5
      · rw [if_pos c_4] at h
        have f9 := fs_B_X12_day_134 N σ_6 τ_4 x5 0 h
        refine ⟨fun c k hn => (f9.1 c k hn).trans ?_, fun c k hn => (f9.2 c k hn).trans ?_⟩
        · rw [e_6, up2_ne (by omega), f_4.1 c k (by omega)]
        · rw [f_4.2 c k]
      · rw [if_neg c_4] at h
        have f9 := fs_B_X12_day_134 N σ_6 τ_4 x5 1 h
        refine ⟨fun c k hn => (f9.1 c k hn).trans ?_, fun c k hn => (f9.2 c k hn).trans ?_⟩
        · rw [e_6, up2_ne (by omega), f_4.1 c k (by omega)]
        · rw [f_4.2 c k]
    · rw [if_neg c_3] at h
      obtain ⟨v_8, e_8, h⟩ := nm_some h
      have f9 := hrec_90 σ_4 τ_4 v_8 _ _ _ h
      refine ⟨fun c k hn => (f9.1 c k hn).trans ?_, fun c k hn => (f9.2 c k hn).trans ?_⟩
      · rw [f_4.1 c k (by omega)]
      · rw [f_4.2 c k]
theorem fs_H_X12_day_90 (N : Nat) : ∀ (n : Nat) (σ : gI) (τ : gJ) (x5 : Int32) (r : Int32) (σ1 : gI) (τ1 : gJ), H_X12_day_90 N n σ τ x5 = some (r, σ1, τ1) → (∀ c k : Nat, ¬ (c = 206 ∨ c = 218 ∨ c = 219 ∨ c = 220 ∨ c = 221 ∨ c = 222 ∨ c = 223 ∨ (c = 199 ∧ (k = 1 ∨ k = 14 ∨ k = 34 ∨ k = 36 ∨ k = 42 ∨ k = 43))) → σ1 c k = σ c k) ∧ (∀ c k : Nat, c ≠ 200 → τ1 c k = τ c k) := by
  intro n
  induction n with
  | zero => intro σ τ x5 r σ1 τ1 h; cases h
  | succ n ih =>
    intro σ τ x5 r σ1 τ1 h
    exact fs_C_X12_day_90 N (H_X12_day_90 N n) ih σ τ x5 h
set_option maxHeartbeats 2000000 in
theorem fs_C_X12_day_29 (N : Nat) (rec_29 : gI → gJ → Int32 → Int32 → Int32 → Option (Int32 × gI × gJ)) (hrec_29 : ∀ (σ : gI) (τ : gJ) (x1 : Int32) (x2 : Int32) (x3 : Int32) (r : Int32) (σ1 : gI) (τ1 : gJ), rec_29 σ τ x1 x2 x3 = some (r, σ1, τ1) → (∀ c k : Nat, ¬ (c = 206 ∨ c = 218 ∨ c = 219 ∨ c = 220 ∨ c = 221 ∨ c = 222 ∨ c = 223 ∨ (c = 199 ∧ (k = 1 ∨ k = 14 ∨ k = 34 ∨ k = 36 ∨ k = 42 ∨ k = 43))) → σ1 c k = σ c k) ∧ (∀ c k : Nat, c ≠ 200 → τ1 c k = τ c k)) (σ : gI) (τ : gJ) (x1 : Int32) (x2 : Int32) (x3 : Int32) {r : Int32} {σ1 : gI} {τ1 : gJ} (h : C_X12_day_29 N rec_29 σ τ x1 x2 x3 = some (r, σ1, τ1)) : (∀ c k : Nat, ¬ (c = 206 ∨ c = 218 ∨ c = 219 ∨ c = 220 ∨ c = 221 ∨ c = 222 ∨ c = 223 ∨ (c = 199 ∧ (k = 1 ∨ k = 14 ∨ k = 34 ∨ k = 36 ∨ k = 42 ∨ k = 43))) → σ1 c k = σ c k) ∧ (∀ c k : Nat, c ≠ 200 → τ1 c k = τ c k) := by
  unfold C_X12_day_29 at h
  by_cases c_1 : x3 = 0
  · rw [if_pos c_1] at h
    obtain ⟨r_2, σ_2, τ_2, q_2, h⟩ := bd_some h
    have f_2 := fr_B_X12_faultOf_0 N σ τ x1 60 x2 q_2
    by_cases c_2 : 0 ≤ r_2
    · rw [if_pos c_2] at h
      obtain ⟨r_4, σ_4, τ_4, q_4, h⟩ := bd_some h
      have f_4 := fr_B_X12_putsBy_0 N σ_2 τ_2 q_4
      obtain ⟨σ_5, e_5, h⟩ := nm_some h
      have f9 := fs_H_X12_day_90 N N σ_5 τ_4 0 _ _ _ h
      refine ⟨fun c k hn => (f9.1 c k hn).trans ?_, fun c k hn => (f9.2 c k hn).trans ?_⟩
      · rw [e_5, up2_ne (by omega), f_4.1 c k (by omega), f_2.1 c k id]
      · rw [f_4.2 c k, f_2.2 c k]
    · rw [if_neg c_2] at h
      obtain ⟨rfl, rfl, rfl⟩ := sm_inj h
      refine ⟨fun c k hn => ?_, fun c k hn => ?_⟩
      · rw [f_2.1 c k id]
      · rw [f_2.2 c k]
  · rw [if_neg c_1] at h
    obtain ⟨r_6, σ_6, τ_6, q_6, h⟩ := bd_some h
    have f_6 := fr_B_X12_readsAct_0 N σ τ q_6
    by_cases c_3 : r_6 = 0
    · rw [if_pos c_3] at h
      have f9 := hrec_29 σ_6 τ_6 x1 r_6 0 _ _ _ h
      refine ⟨fun c k hn => (f9.1 c k hn).trans ?_, fun c k hn => (f9.2 c k hn).trans ?_⟩
      · rw [f_6.1 c k (by omega)]
      · rw [f_6.2 c k]
    · rw [if_neg c_3] at h
      obtain ⟨r_8, σ_8, τ_8, q_8, h⟩ := bd_some h
      have f_8 := fr_B_X12_takes_0 N σ_6 τ_6 59 q_8
      by_cases c_4 : r_8 = 0
      · rw [if_pos c_4] at h
        have f9 := hrec_29 σ_8 τ_8 x1 r_6 0 _ _ _ h
        refine ⟨fun c k hn => (f9.1 c k hn).trans ?_, fun c k hn => (f9.2 c k hn).trans ?_⟩
        · rw [f_8.1 c k (by omega), f_6.1 c k (by omega)]
        · rw [f_8.2 c k, f_6.2 c k]
      · rw [if_neg c_4] at h
        have f9 := hrec_29 σ_8 τ_8 x1 r_6 1 _ _ _ h
        refine ⟨fun c k hn => (f9.1 c k hn).trans ?_, fun c k hn => (f9.2 c k hn).trans ?_⟩
        · rw [f_8.1 c k (by omega), f_6.1 c k (by omega)]
        · rw [f_8.2 c k, f_6.2 c k]
theorem fs_H_X12_day_29 (N : Nat) : ∀ (n : Nat) (σ : gI) (τ : gJ) (x1 : Int32) (x2 : Int32) (x3 : Int32) (r : Int32) (σ1 : gI) (τ1 : gJ), H_X12_day_29 N n σ τ x1 x2 x3 = some (r, σ1, τ1) → (∀ c k : Nat, ¬ (c = 206 ∨ c = 218 ∨ c = 219 ∨ c = 220 ∨ c = 221 ∨ c = 222 ∨ c = 223 ∨ (c = 199 ∧ (k = 1 ∨ k = 14 ∨ k = 34 ∨ k = 36 ∨ k = 42 ∨ k = 43))) → σ1 c k = σ c k) ∧ (∀ c k : Nat, c ≠ 200 → τ1 c k = τ c k) := by
  intro n
  induction n with
  | zero => intro σ τ x1 x2 x3 r σ1 τ1 h; cases h
  | succ n ih =>
    intro σ τ x1 x2 x3 r σ1 τ1 h
    exact fs_C_X12_day_29 N (H_X12_day_29 N n) ih σ τ x1 x2 x3 h
set_option maxHeartbeats 2000000 in
theorem fs_C_X12_rule_61 (N : Nat) (rec_61 : gI → gJ → Int32 → Option (Int32 × gI × gJ)) (hrec_61 : ∀ (σ : gI) (τ : gJ) (x4 : Int32) (r : Int32) (σ1 : gI) (τ1 : gJ), rec_61 σ τ x4 = some (r, σ1, τ1) → (∀ c k : Nat, ¬ (c = 216 ∨ (c = 199 ∧ (k = 28))) → σ1 c k = σ c k) ∧ (∀ c k : Nat, τ1 c k = τ c k)) (σ : gI) (τ : gJ) (x4 : Int32) {r : Int32} {σ1 : gI} {τ1 : gJ} (h : C_X12_rule_61 N rec_61 σ τ x4 = some (r, σ1, τ1)) : (∀ c k : Nat, ¬ (c = 216 ∨ (c = 199 ∧ (k = 28))) → σ1 c k = σ c k) ∧ (∀ c k : Nat, τ1 c k = τ c k) := by
  unfold C_X12_rule_61 at h
  by_cases c_1 : σ 199 29 ≤ x4
  · rw [if_pos c_1] at h
    obtain ⟨rfl, rfl, rfl⟩ := sm_inj h
    refine ⟨fun c k hn => ?_, fun c k => ?_⟩
    · rfl
    · rfl
  · rw [if_neg c_1] at h
    obtain ⟨j_2, -, -, h⟩ := ck_some h
    obtain ⟨σ_3, e_3, h⟩ := nm_some h
    obtain ⟨v_4, e_4, h⟩ := nm_some h
    have f9 := hrec_61 σ_3 τ v_4 _ _ _ h
    refine ⟨fun c k hn => (f9.1 c k hn).trans ?_, fun c k => (f9.2 c k).trans ?_⟩
    · rw [e_3, up2_ne (by omega)]
    · rfl
theorem fs_H_X12_rule_61 (N : Nat) : ∀ (n : Nat) (σ : gI) (τ : gJ) (x4 : Int32) (r : Int32) (σ1 : gI) (τ1 : gJ), H_X12_rule_61 N n σ τ x4 = some (r, σ1, τ1) → (∀ c k : Nat, ¬ (c = 216 ∨ (c = 199 ∧ (k = 28))) → σ1 c k = σ c k) ∧ (∀ c k : Nat, τ1 c k = τ c k) := by
  intro n
  induction n with
  | zero => intro σ τ x4 r σ1 τ1 h; cases h
  | succ n ih =>
    intro σ τ x4 r σ1 τ1 h
    exact fs_C_X12_rule_61 N (H_X12_rule_61 N n) ih σ τ x4 h
set_option maxHeartbeats 2000000 in
theorem fs_B_X12_rule_34 (N : Nat) (σ : gI) (τ : gJ) (x1 : Int32) (y0 : Int32) {r : Int32} {σ1 : gI} {τ1 : gJ} (h : B_X12_rule_34 N σ τ x1 y0 = some (r, σ1, τ1)) : (∀ c k : Nat, ¬ (c = 216 ∨ (c = 199 ∧ (k = 28))) → σ1 c k = σ c k) ∧ (∀ c k : Nat, τ1 c k = τ c k) := by
  unfold B_X12_rule_34 at h
  obtain ⟨r_1, σ_1, τ_1, q_1, h⟩ := bd_some h
  have f_1 := fr_B_X12_faultOf_0 N σ τ x1 40 y0 q_1
  by_cases c_1 : 0 ≤ r_1
  · rw [if_pos c_1] at h
    obtain ⟨σ_3, e_3, h⟩ := nm_some h
    have f9 := fs_H_X12_rule_61 N N σ_3 τ_1 0 _ _ _ h
    refine ⟨fun c k hn => (f9.1 c k hn).trans ?_, fun c k => (f9.2 c k).trans ?_⟩
    · rw [e_3, up2_ne (by omega), f_1.1 c k id]
    · rw [f_1.2 c k]
  · rw [if_neg c_1] at h
    obtain ⟨rfl, rfl, rfl⟩ := sm_inj h
    refine ⟨fun c k hn => ?_, fun c k => ?_⟩
    · rw [f_1.1 c k id]
    · rw [f_1.2 c k]
set_option maxHeartbeats 2000000 in
theorem fs_C_X12_water_64 (N : Nat) (rec_64 : gI → gJ → Int32 → Int32 → Option (Int32 × gI × gJ)) (hrec_64 : ∀ (σ : gI) (τ : gJ) (x2 : Int32) (x4 : Int32) (r : Int32) (σ1 : gI) (τ1 : gJ), rec_64 σ τ x2 x4 = some (r, σ1, τ1) → (∀ c k : Nat, ¬ (c = 205 ∨ c = 215 ∨ (c = 199 ∧ (k = 4 ∨ k = 14))) → σ1 c k = σ c k) ∧ (∀ c k : Nat, τ1 c k = τ c k)) (σ : gI) (τ : gJ) (x2 : Int32) (x4 : Int32) {r : Int32} {σ1 : gI} {τ1 : gJ} (h : C_X12_water_64 N rec_64 σ τ x2 x4 = some (r, σ1, τ1)) : (∀ c k : Nat, ¬ (c = 205 ∨ c = 215 ∨ (c = 199 ∧ (k = 4 ∨ k = 14))) → σ1 c k = σ c k) ∧ (∀ c k : Nat, τ1 c k = τ c k) := by
  unfold C_X12_water_64 at h
  by_cases c_1 : x2 ≤ x4
  · rw [if_pos c_1] at h
    obtain ⟨rfl, rfl, rfl⟩ := sm_inj h
    refine ⟨fun c k hn => ?_, fun c k => ?_⟩
    · rfl
    · rfl
  · rw [if_neg c_1] at h
    obtain ⟨j_2, -, -, h⟩ := ck_some h
    obtain ⟨σ_3, e_3, h⟩ := nm_some h
    obtain ⟨v_4, e_4, h⟩ := nm_some h
    have f9 := hrec_64 σ_3 τ x2 v_4 _ _ _ h
    refine ⟨fun c k hn => (f9.1 c k hn).trans ?_, fun c k => (f9.2 c k).trans ?_⟩
    · rw [e_3, up2_ne (by omega)]
    · rfl
theorem fs_H_X12_water_64 (N : Nat) : ∀ (n : Nat) (σ : gI) (τ : gJ) (x2 : Int32) (x4 : Int32) (r : Int32) (σ1 : gI) (τ1 : gJ), H_X12_water_64 N n σ τ x2 x4 = some (r, σ1, τ1) → (∀ c k : Nat, ¬ (c = 205 ∨ c = 215 ∨ (c = 199 ∧ (k = 4 ∨ k = 14))) → σ1 c k = σ c k) ∧ (∀ c k : Nat, τ1 c k = τ c k) := by
  intro n
  induction n with
  | zero => intro σ τ x2 x4 r σ1 τ1 h; cases h
  | succ n ih =>
    intro σ τ x2 x4 r σ1 τ1 h
    exact fs_C_X12_water_64 N (H_X12_water_64 N n) ih σ τ x2 x4 h
set_option maxHeartbeats 2000000 in
theorem fs_C_X12_water_14 (N : Nat) (rec_14 : gI → gJ → Int32 → Int32 → Option (Int32 × gI × gJ)) (hrec_14 : ∀ (σ : gI) (τ : gJ) (x1 : Int32) (x2 : Int32) (r : Int32) (σ1 : gI) (τ1 : gJ), rec_14 σ τ x1 x2 = some (r, σ1, τ1) → (∀ c k : Nat, ¬ (c = 205 ∨ c = 215 ∨ (c = 199 ∧ (k = 4 ∨ k = 14))) → σ1 c k = σ c k) ∧ (∀ c k : Nat, τ1 c k = τ c k)) (σ : gI) (τ : gJ) (x1 : Int32) (x2 : Int32) {r : Int32} {σ1 : gI} {τ1 : gJ} (h : C_X12_water_14 N rec_14 σ τ x1 x2 = some (r, σ1, τ1)) : (∀ c k : Nat, ¬ (c = 205 ∨ c = 215 ∨ (c = 199 ∧ (k = 4 ∨ k = 14))) → σ1 c k = σ c k) ∧ (∀ c k : Nat, τ1 c k = τ c k) := by
  unfold C_X12_water_14 at h
  obtain ⟨r_1, σ_1, τ_1, q_1, h⟩ := bd_some h
  have f_1 := fr_B_X12_among_0 N sb_14 σ τ q_1
  by_cases c_1 : r_1 < 0
  · rw [if_pos c_1] at h
    obtain ⟨r_3, σ_3, τ_3, q_3, h⟩ := bd_some h
    have f_3 := fr_B_X12_faultOf_0 N σ_1 τ_1 x1 40 1 q_3
    by_cases c_2 : 0 ≤ r_3
    · rw [if_pos c_2] at h
      obtain ⟨σ_5, e_5, h⟩ := nm_some h
      have f9 := fs_H_X12_water_64 N N σ_5 τ_3 x2 0 _ _ _ h
      refine ⟨fun c k hn => (f9.1 c k hn).trans ?_, fun c k => (f9.2 c k).trans ?_⟩
      · rw [e_5, up2_ne (by omega), f_3.1 c k id, f_1.1 c k id]
      · rw [f_3.2 c k, f_1.2 c k]
    · rw [if_neg c_2] at h
      obtain ⟨rfl, rfl, rfl⟩ := sm_inj h
      refine ⟨fun c k hn => ?_, fun c k => ?_⟩
      · rw [f_3.1 c k id, f_1.1 c k id]
      · rw [f_3.2 c k, f_1.2 c k]
  · rw [if_neg c_1] at h
    obtain ⟨r_6, σ_6, τ_6, q_6, h⟩ := bd_some h
    have f_6 := fr_B_X12_takesOf_0 N sb_14 σ_1 τ_1 q_6
    obtain ⟨j_7, -, -, h⟩ := ck_some h
    obtain ⟨σ_8, e_8, h⟩ := nm_some h
    obtain ⟨v_9, e_9, h⟩ := nm_some h
    have f9 := hrec_14 σ_8 τ_6 x1 v_9 _ _ _ h
    refine ⟨fun c k hn => (f9.1 c k hn).trans ?_, fun c k => (f9.2 c k).trans ?_⟩
    · rw [e_8, up2_ne (by omega), f_6.1 c k (by omega), f_1.1 c k id]
    · rw [f_6.2 c k, f_1.2 c k]
theorem fs_H_X12_water_14 (N : Nat) : ∀ (n : Nat) (σ : gI) (τ : gJ) (x1 : Int32) (x2 : Int32) (r : Int32) (σ1 : gI) (τ1 : gJ), H_X12_water_14 N n σ τ x1 x2 = some (r, σ1, τ1) → (∀ c k : Nat, ¬ (c = 205 ∨ c = 215 ∨ (c = 199 ∧ (k = 4 ∨ k = 14))) → σ1 c k = σ c k) ∧ (∀ c k : Nat, τ1 c k = τ c k) := by
  intro n
  induction n with
  | zero => intro σ τ x1 x2 r σ1 τ1 h; cases h
  | succ n ih =>
    intro σ τ x1 x2 r σ1 τ1 h
    exact fs_C_X12_water_14 N (H_X12_water_14 N n) ih σ τ x1 x2 h
set_option maxHeartbeats 2000000 in
theorem fs_C_X12_town_244 (N : Nat) (rec_244 : gI → gJ → Int32 → Option (Int32 × gI × gJ)) (hrec_244 : ∀ (σ : gI) (τ : gJ) (x5 : Int32) (r : Int32) (σ1 : gI) (τ1 : gJ), rec_244 σ τ x5 = some (r, σ1, τ1) → (∀ c k : Nat, ¬ (c = 201 ∨ c = 202 ∨ c = 203 ∨ c = 204 ∨ c = 206 ∨ c = 209 ∨ c = 210 ∨ c = 211 ∨ c = 212 ∨ c = 213 ∨ c = 214 ∨ c = 231 ∨ (c = 199 ∧ (k = 3 ∨ k = 14 ∨ k = 21 ∨ k = 24 ∨ k = 36 ∨ k = 52))) → σ1 c k = σ c k) ∧ (∀ c k : Nat, τ1 c k = τ c k)) (σ : gI) (τ : gJ) (x5 : Int32) {r : Int32} {σ1 : gI} {τ1 : gJ} (h : C_X12_town_244 N rec_244 σ τ x5 = some (r, σ1, τ1)) : (∀ c k : Nat, ¬ (c = 201 ∨ c = 202 ∨ c = 203 ∨ c = 204 ∨ c = 206 ∨ c = 209 ∨ c = 210 ∨ c = 211 ∨ c = 212 ∨ c = 213 ∨ c = 214 ∨ c = 231 ∨ (c = 199 ∧ (k = 3 ∨ k = 14 ∨ k = 21 ∨ k = 24 ∨ k = 36 ∨ k = 52))) → σ1 c k = σ c k) ∧ (∀ c k : Nat, τ1 c k = τ c k) := by
  unfold C_X12_town_244 at h
  by_cases c_1 : 3 ≤ x5
  · rw [if_pos c_1] at h
    obtain ⟨rfl, rfl, rfl⟩ := sm_inj h
    refine ⟨fun c k hn => ?_, fun c k => ?_⟩
    · rfl
    · rfl
  · rw [if_neg c_1] at h
    obtain ⟨j_2, -, -, h⟩ := ck_some h
    obtain ⟨σ_3, e_3, h⟩ := nm_some h
    obtain ⟨v_4, e_4, h⟩ := nm_some h
    have f9 := hrec_244 σ_3 τ v_4 _ _ _ h
    refine ⟨fun c k hn => (f9.1 c k hn).trans ?_, fun c k => (f9.2 c k).trans ?_⟩
    · rw [e_3, up2_ne (by omega)]
    · rfl
theorem fs_H_X12_town_244 (N : Nat) : ∀ (n : Nat) (σ : gI) (τ : gJ) (x5 : Int32) (r : Int32) (σ1 : gI) (τ1 : gJ), H_X12_town_244 N n σ τ x5 = some (r, σ1, τ1) → (∀ c k : Nat, ¬ (c = 201 ∨ c = 202 ∨ c = 203 ∨ c = 204 ∨ c = 206 ∨ c = 209 ∨ c = 210 ∨ c = 211 ∨ c = 212 ∨ c = 213 ∨ c = 214 ∨ c = 231 ∨ (c = 199 ∧ (k = 3 ∨ k = 14 ∨ k = 21 ∨ k = 24 ∨ k = 36 ∨ k = 52))) → σ1 c k = σ c k) ∧ (∀ c k : Nat, τ1 c k = τ c k) := by
  intro n
  induction n with
  | zero => intro σ τ x5 r σ1 τ1 h; cases h
  | succ n ih =>
    intro σ τ x5 r σ1 τ1 h
    exact fs_C_X12_town_244 N (H_X12_town_244 N n) ih σ τ x5 h
set_option maxHeartbeats 2000000 in
theorem fs_C_X12_town_210 (N : Nat) (rec_210 : gI → gJ → Int32 → Option (Int32 × gI × gJ)) (hrec_210 : ∀ (σ : gI) (τ : gJ) (x5 : Int32) (r : Int32) (σ1 : gI) (τ1 : gJ), rec_210 σ τ x5 = some (r, σ1, τ1) → (∀ c k : Nat, ¬ (c = 201 ∨ c = 202 ∨ c = 203 ∨ c = 204 ∨ c = 206 ∨ c = 209 ∨ c = 210 ∨ c = 211 ∨ c = 212 ∨ c = 213 ∨ c = 214 ∨ c = 231 ∨ (c = 199 ∧ (k = 3 ∨ k = 14 ∨ k = 21 ∨ k = 24 ∨ k = 36 ∨ k = 52))) → σ1 c k = σ c k) ∧ (∀ c k : Nat, τ1 c k = τ c k)) (σ : gI) (τ : gJ) (x5 : Int32) {r : Int32} {σ1 : gI} {τ1 : gJ} (h : C_X12_town_210 N rec_210 σ τ x5 = some (r, σ1, τ1)) : (∀ c k : Nat, ¬ (c = 201 ∨ c = 202 ∨ c = 203 ∨ c = 204 ∨ c = 206 ∨ c = 209 ∨ c = 210 ∨ c = 211 ∨ c = 212 ∨ c = 213 ∨ c = 214 ∨ c = 231 ∨ (c = 199 ∧ (k = 3 ∨ k = 14 ∨ k = 21 ∨ k = 24 ∨ k = 36 ∨ k = 52))) → σ1 c k = σ c k) ∧ (∀ c k : Nat, τ1 c k = τ c k) := by
  unfold C_X12_town_210 at h
  by_cases c_1 : 45 ≤ x5
  · rw [if_pos c_1] at h
    obtain ⟨σ_2, e_2, h⟩ := nm_some h
    obtain ⟨σ_3, e_3, h⟩ := nm_some h
    have f9 := fs_H_X12_town_244 N N σ_3 τ 0 _ _ _ h
    refine ⟨fun c k hn => (f9.1 c k hn).trans ?_, fun c k => (f9.2 c k).trans ?_⟩
    · rw [e_3, up2_ne (by omega), e_2, up2_ne (by omega)]
    · rfl
  · rw [if_neg c_1] at h
    obtain ⟨j_4, -, -, h⟩ := ck_some h
    obtain ⟨σ_5, e_5, h⟩ := nm_some h
    obtain ⟨v_6, e_6, h⟩ := nm_some h
    have f9 := hrec_210 σ_5 τ v_6 _ _ _ h
    refine ⟨fun c k hn => (f9.1 c k hn).trans ?_, fun c k => (f9.2 c k).trans ?_⟩
    · rw [e_5, up2_ne (by omega)]
    · rfl
theorem fs_H_X12_town_210 (N : Nat) : ∀ (n : Nat) (σ : gI) (τ : gJ) (x5 : Int32) (r : Int32) (σ1 : gI) (τ1 : gJ), H_X12_town_210 N n σ τ x5 = some (r, σ1, τ1) → (∀ c k : Nat, ¬ (c = 201 ∨ c = 202 ∨ c = 203 ∨ c = 204 ∨ c = 206 ∨ c = 209 ∨ c = 210 ∨ c = 211 ∨ c = 212 ∨ c = 213 ∨ c = 214 ∨ c = 231 ∨ (c = 199 ∧ (k = 3 ∨ k = 14 ∨ k = 21 ∨ k = 24 ∨ k = 36 ∨ k = 52))) → σ1 c k = σ c k) ∧ (∀ c k : Nat, τ1 c k = τ c k) := by
  intro n
  induction n with
  | zero => intro σ τ x5 r σ1 τ1 h; cases h
  | succ n ih =>
    intro σ τ x5 r σ1 τ1 h
    exact fs_C_X12_town_210 N (H_X12_town_210 N n) ih σ τ x5 h
set_option maxHeartbeats 2000000 in
theorem fs_C_X12_town_136 (N : Nat) (rec_136 : gI → gJ → Int32 → Option (Int32 × gI × gJ)) (hrec_136 : ∀ (σ : gI) (τ : gJ) (x5 : Int32) (r : Int32) (σ1 : gI) (τ1 : gJ), rec_136 σ τ x5 = some (r, σ1, τ1) → (∀ c k : Nat, ¬ (c = 201 ∨ c = 202 ∨ c = 203 ∨ c = 204 ∨ c = 206 ∨ c = 209 ∨ c = 210 ∨ c = 211 ∨ c = 212 ∨ c = 213 ∨ c = 214 ∨ c = 231 ∨ (c = 199 ∧ (k = 3 ∨ k = 14 ∨ k = 21 ∨ k = 24 ∨ k = 36 ∨ k = 52))) → σ1 c k = σ c k) ∧ (∀ c k : Nat, τ1 c k = τ c k)) (σ : gI) (τ : gJ) (x5 : Int32) {r : Int32} {σ1 : gI} {τ1 : gJ} (h : C_X12_town_136 N rec_136 σ τ x5 = some (r, σ1, τ1)) : (∀ c k : Nat, ¬ (c = 201 ∨ c = 202 ∨ c = 203 ∨ c = 204 ∨ c = 206 ∨ c = 209 ∨ c = 210 ∨ c = 211 ∨ c = 212 ∨ c = 213 ∨ c = 214 ∨ c = 231 ∨ (c = 199 ∧ (k = 3 ∨ k = 14 ∨ k = 21 ∨ k = 24 ∨ k = 36 ∨ k = 52))) → σ1 c k = σ c k) ∧ (∀ c k : Nat, τ1 c k = τ c k) := by
  unfold C_X12_town_136 at h
  by_cases c_1 : σ 199 3 ≤ x5
  · rw [if_pos c_1] at h
    have f9 := fs_H_X12_town_210 N N σ τ 0 _ _ _ h
    refine ⟨fun c k hn => (f9.1 c k hn).trans ?_, fun c k => (f9.2 c k).trans ?_⟩
    · rfl
    · rfl
  · rw [if_neg c_1] at h
    obtain ⟨j_2, -, -, h⟩ := ck_some h
    obtain ⟨σ_3, e_3, h⟩ := nm_some h
    obtain ⟨σ_4, e_4, h⟩ := nm_some h
    obtain ⟨σ_5, e_5, h⟩ := nm_some h
    obtain ⟨σ_6, e_6, h⟩ := nm_some h
    obtain ⟨v_7, e_7, h⟩ := nm_some h
    have f9 := hrec_136 σ_6 τ v_7 _ _ _ h
    refine ⟨fun c k hn => (f9.1 c k hn).trans ?_, fun c k => (f9.2 c k).trans ?_⟩
    · rw [e_6, up2_ne (by omega), e_5, up2_ne (by omega), e_4, up2_ne (by omega), e_3, up2_ne (by omega)]
    · rfl
theorem fs_H_X12_town_136 (N : Nat) : ∀ (n : Nat) (σ : gI) (τ : gJ) (x5 : Int32) (r : Int32) (σ1 : gI) (τ1 : gJ), H_X12_town_136 N n σ τ x5 = some (r, σ1, τ1) → (∀ c k : Nat, ¬ (c = 201 ∨ c = 202 ∨ c = 203 ∨ c = 204 ∨ c = 206 ∨ c = 209 ∨ c = 210 ∨ c = 211 ∨ c = 212 ∨ c = 213 ∨ c = 214 ∨ c = 231 ∨ (c = 199 ∧ (k = 3 ∨ k = 14 ∨ k = 21 ∨ k = 24 ∨ k = 36 ∨ k = 52))) → σ1 c k = σ c k) ∧ (∀ c k : Nat, τ1 c k = τ c k) := by
  intro n
  induction n with
  | zero => intro σ τ x5 r σ1 τ1 h; cases h
  | succ n ih =>
    intro σ τ x5 r σ1 τ1 h
    exact fs_C_X12_town_136 N (H_X12_town_136 N n) ih σ τ x5 h
set_option maxHeartbeats 2000000 in
theorem fs_C_X12_town_86 (N : Nat) (rec_86 : gI → gJ → Int32 → Option (Int32 × gI × gJ)) (hrec_86 : ∀ (σ : gI) (τ : gJ) (x5 : Int32) (r : Int32) (σ1 : gI) (τ1 : gJ), rec_86 σ τ x5 = some (r, σ1, τ1) → (∀ c k : Nat, ¬ (c = 201 ∨ c = 202 ∨ c = 203 ∨ c = 204 ∨ c = 206 ∨ c = 209 ∨ c = 210 ∨ c = 211 ∨ c = 212 ∨ c = 213 ∨ c = 214 ∨ c = 231 ∨ (c = 199 ∧ (k = 3 ∨ k = 14 ∨ k = 21 ∨ k = 24 ∨ k = 36 ∨ k = 52))) → σ1 c k = σ c k) ∧ (∀ c k : Nat, τ1 c k = τ c k)) (σ : gI) (τ : gJ) (x5 : Int32) {r : Int32} {σ1 : gI} {τ1 : gJ} (h : C_X12_town_86 N rec_86 σ τ x5 = some (r, σ1, τ1)) : (∀ c k : Nat, ¬ (c = 201 ∨ c = 202 ∨ c = 203 ∨ c = 204 ∨ c = 206 ∨ c = 209 ∨ c = 210 ∨ c = 211 ∨ c = 212 ∨ c = 213 ∨ c = 214 ∨ c = 231 ∨ (c = 199 ∧ (k = 3 ∨ k = 14 ∨ k = 21 ∨ k = 24 ∨ k = 36 ∨ k = 52))) → σ1 c k = σ c k) ∧ (∀ c k : Nat, τ1 c k = τ c k) := by
  unfold C_X12_town_86 at h
  by_cases c_1 : σ 199 24 ≤ x5
  · rw [if_pos c_1] at h
    obtain ⟨σ_2, e_2, h⟩ := nm_some h
    have f9 := fs_H_X12_town_136 N N σ_2 τ 0 _ _ _ h
    refine ⟨fun c k hn => (f9.1 c k hn).trans ?_, fun c k => (f9.2 c k).trans ?_⟩
    · rw [e_2, up2_ne (by omega)]
    · rfl
  · rw [if_neg c_1] at h
    obtain ⟨j_3, -, -, h⟩ := ck_some h
    by_cases c_2 : σ 213 j_3 < σ 199 21
    · rw [if_pos c_2] at h
      obtain ⟨v_5, e_5, h⟩ := nm_some h
      have f9 := hrec_86 σ τ v_5 _ _ _ h
      refine ⟨fun c k hn => (f9.1 c k hn).trans ?_, fun c k => (f9.2 c k).trans ?_⟩
      · rfl
      · rfl
    · rw [if_neg c_2] at h
      obtain ⟨rfl, rfl, rfl⟩ := sm_inj h
      refine ⟨fun c k hn => ?_, fun c k => ?_⟩
      · rfl
      · rfl
theorem fs_H_X12_town_86 (N : Nat) : ∀ (n : Nat) (σ : gI) (τ : gJ) (x5 : Int32) (r : Int32) (σ1 : gI) (τ1 : gJ), H_X12_town_86 N n σ τ x5 = some (r, σ1, τ1) → (∀ c k : Nat, ¬ (c = 201 ∨ c = 202 ∨ c = 203 ∨ c = 204 ∨ c = 206 ∨ c = 209 ∨ c = 210 ∨ c = 211 ∨ c = 212 ∨ c = 213 ∨ c = 214 ∨ c = 231 ∨ (c = 199 ∧ (k = 3 ∨ k = 14 ∨ k = 21 ∨ k = 24 ∨ k = 36 ∨ k = 52))) → σ1 c k = σ c k) ∧ (∀ c k : Nat, τ1 c k = τ c k) := by
  intro n
  induction n with
  | zero => intro σ τ x5 r σ1 τ1 h; cases h
  | succ n ih =>
    intro σ τ x5 r σ1 τ1 h
    exact fs_C_X12_town_86 N (H_X12_town_86 N n) ih σ τ x5 h
set_option maxHeartbeats 2000000 in
theorem fs_C_X12_town_34 (N : Nat) (rec_34 : gI → gJ → Int32 → Int32 → Int32 → Option (Int32 × gI × gJ)) (hrec_34 : ∀ (σ : gI) (τ : gJ) (x1 : Int32) (x2 : Int32) (x3 : Int32) (r : Int32) (σ1 : gI) (τ1 : gJ), rec_34 σ τ x1 x2 x3 = some (r, σ1, τ1) → (∀ c k : Nat, ¬ (c = 201 ∨ c = 202 ∨ c = 203 ∨ c = 204 ∨ c = 206 ∨ c = 209 ∨ c = 210 ∨ c = 211 ∨ c = 212 ∨ c = 213 ∨ c = 214 ∨ c = 231 ∨ (c = 199 ∧ (k = 3 ∨ k = 14 ∨ k = 21 ∨ k = 24 ∨ k = 36 ∨ k = 52))) → σ1 c k = σ c k) ∧ (∀ c k : Nat, τ1 c k = τ c k)) (σ : gI) (τ : gJ) (x1 : Int32) (x2 : Int32) (x3 : Int32) {r : Int32} {σ1 : gI} {τ1 : gJ} (h : C_X12_town_34 N rec_34 σ τ x1 x2 x3 = some (r, σ1, τ1)) : (∀ c k : Nat, ¬ (c = 201 ∨ c = 202 ∨ c = 203 ∨ c = 204 ∨ c = 206 ∨ c = 209 ∨ c = 210 ∨ c = 211 ∨ c = 212 ∨ c = 213 ∨ c = 214 ∨ c = 231 ∨ (c = 199 ∧ (k = 3 ∨ k = 14 ∨ k = 21 ∨ k = 24 ∨ k = 36 ∨ k = 52))) → σ1 c k = σ c k) ∧ (∀ c k : Nat, τ1 c k = τ c k) := by
  unfold C_X12_town_34 at h
  by_cases c_1 : x3 = 0
  · rw [if_pos c_1] at h
    obtain ⟨r_2, σ_2, τ_2, q_2, h⟩ := bd_some h
    have f_2 := fr_B_X12_faultOf_0 N σ τ x1 76 x2 q_2
    by_cases c_2 : 0 ≤ r_2
    · rw [if_pos c_2] at h
      have f9 := fs_H_X12_town_86 N N σ_2 τ_2 0 _ _ _ h
      refine ⟨fun c k hn => (f9.1 c k hn).trans ?_, fun c k => (f9.2 c k).trans ?_⟩
      · rw [f_2.1 c k id]
      · rw [f_2.2 c k]
    · rw [if_neg c_2] at h
      obtain ⟨rfl, rfl, rfl⟩ := sm_inj h
      refine ⟨fun c k hn => ?_, fun c k => ?_⟩
      · rw [f_2.1 c k id]
      · rw [f_2.2 c k]
  · rw [if_neg c_1] at h
    obtain ⟨r_4, σ_4, τ_4, q_4, h⟩ := bd_some h
    have f_4 := fr_B_X12_readsPlace_0 N σ τ q_4
    by_cases c_3 : r_4 = 0
    · rw [if_pos c_3] at h
      have f9 := hrec_34 σ_4 τ_4 x1 r_4 0 _ _ _ h
      refine ⟨fun c k hn => (f9.1 c k hn).trans ?_, fun c k => (f9.2 c k).trans ?_⟩
      · rw [f_4.1 c k (by omega)]
      · rw [f_4.2 c k]
    · rw [if_neg c_3] at h
      obtain ⟨r_6, σ_6, τ_6, q_6, h⟩ := bd_some h
      have f_6 := fr_B_X12_takes_0 N σ_4 τ_4 59 q_6
      by_cases c_4 : r_6 = 0
      · rw [if_pos c_4] at h
        have f9 := hrec_34 σ_6 τ_6 x1 r_4 0 _ _ _ h
        refine ⟨fun c k hn => (f9.1 c k hn).trans ?_, fun c k => (f9.2 c k).trans ?_⟩
        · rw [f_6.1 c k (by omega), f_4.1 c k (by omega)]
        · rw [f_6.2 c k, f_4.2 c k]
      · rw [if_neg c_4] at h
        have f9 := hrec_34 σ_6 τ_6 x1 r_4 1 _ _ _ h
        refine ⟨fun c k hn => (f9.1 c k hn).trans ?_, fun c k => (f9.2 c k).trans ?_⟩
        · rw [f_6.1 c k (by omega), f_4.1 c k (by omega)]
        · rw [f_6.2 c k, f_4.2 c k]
theorem fs_H_X12_town_34 (N : Nat) : ∀ (n : Nat) (σ : gI) (τ : gJ) (x1 : Int32) (x2 : Int32) (x3 : Int32) (r : Int32) (σ1 : gI) (τ1 : gJ), H_X12_town_34 N n σ τ x1 x2 x3 = some (r, σ1, τ1) → (∀ c k : Nat, ¬ (c = 201 ∨ c = 202 ∨ c = 203 ∨ c = 204 ∨ c = 206 ∨ c = 209 ∨ c = 210 ∨ c = 211 ∨ c = 212 ∨ c = 213 ∨ c = 214 ∨ c = 231 ∨ (c = 199 ∧ (k = 3 ∨ k = 14 ∨ k = 21 ∨ k = 24 ∨ k = 36 ∨ k = 52))) → σ1 c k = σ c k) ∧ (∀ c k : Nat, τ1 c k = τ c k) := by
  intro n
  induction n with
  | zero => intro σ τ x1 x2 x3 r σ1 τ1 h; cases h
  | succ n ih =>
    intro σ τ x1 x2 x3 r σ1 τ1 h
    exact fs_C_X12_town_34 N (H_X12_town_34 N n) ih σ τ x1 x2 x3 h
set_option maxHeartbeats 2000000 in
theorem sd_B_X11_day_113 (N : Nat) (hN : 4294967296 ≤ N) (σ : gI) (τ : gJ) (x2 : Int32) (x3 : Int32) (x4 : Int32) (hI : IC σ) : okp (Kq σ τ (fun _ => True)) (B_X11_day_113 N σ τ x2 x3 x4) := by
  unfold B_X11_day_113
  refine ok_ite (fun c_1 => ?_) (fun c_1 => ?_)
  · simp only [fa_lt, fa_le, fa_eq] at c_1
    refine ok_bd (s_B_X4_tell__0 N hN σ τ 1 x3.toInt64 ((ks_rf σ).1.2 hI)) (fun _ σ_2 τ_2 hp_2 => ?_)
    have k_2 : KS σ σ_2 := ks_tr (ks_rf σ) hp_2.2.1
    have kj_2 : KJ τ τ_2 := kj_tr (kj_rf τ) hp_2.2.2
    exact ok_r ⟨trivial, k_2, kj_2⟩
  · simp only [fa_lt, fa_le, fa_eq] at c_1
    refine ok_bd (s_B_X4_tell__0 N hN σ τ 0 x3.toInt64 ((ks_rf σ).1.2 hI)) (fun _ σ_3 τ_3 hp_3 => ?_)
    have k_3 : KS σ σ_3 := ks_tr (ks_rf σ) hp_3.2.1
    have kj_3 : KJ τ τ_3 := kj_tr (kj_rf τ) hp_3.2.2
    exact ok_r ⟨trivial, k_3, kj_3⟩
set_option maxHeartbeats 2000000 in
theorem sd_C_X11_day_48 (N : Nat) (hN : 4294967296 ≤ N) (rec_48 : gI → gJ → Int32 → Int32 → Int32 → Int32 → Int32 → Option (Int32 × gI × gJ)) (n_48 : Nat) (hrec_48 : ∀ (σ : gI) (τ : gJ) (x1 : Int32) (x2 : Int32) (x3 : Int32) (x4 : Int32) (x5 : Int32), IC σ → (0 ≤ x5.toInt) → (2147483647 - x5.toInt).toNat < n_48 → okp (Kq σ τ (fun _ => True)) (rec_48 σ τ x1 x2 x3 x4 x5)) (σ : gI) (τ : gJ) (x1 : Int32) (x2 : Int32) (x3 : Int32) (x4 : Int32) (x5 : Int32) (hI : IC σ) (h0_48 : 0 ≤ x5.toInt) (hm_48 : (2147483647 - x5.toInt).toNat < n_48 + 1) : okp (Kq σ τ (fun _ => True)) (C_X11_day_48 N rec_48 σ τ x1 x2 x3 x4 x5) := by
  unfold C_X11_day_48
  refine ok_ite (fun c_1 => ?_) (fun c_1 => ?_)
  · simp only [fa_lt, fa_le, fa_eq] at c_1
    refine ok_ite (fun c_2 => ?_) (fun c_2 => ?_)
    · simp only [fa_lt, fa_le, fa_eq] at c_2
      exact ok_mono (fun _ _ _ h9 => ⟨h9.1, ks_tr (ks_rf σ) h9.2.1, kj_tr (kj_rf τ) h9.2.2⟩) (sd_B_X11_day_113 N hN σ τ x2 x3 x4 ((ks_rf σ).1.2 hI))
    · simp only [fa_lt, fa_le, fa_eq] at c_2
      refine ok_bd (s_B_X3_push_0 N hN 37 is_37 σ τ ((ks_rf σ).1.2 hI)) (fun _ σ_3 τ_3 hp_3 => ?_)
      have k_3 : KS σ σ_3 := ks_tr (ks_rf σ) hp_3.2.1
      have kj_3 : KJ τ τ_3 := kj_tr (kj_rf τ) hp_3.2.2
      exact ok_mono (fun _ _ _ h9 => ⟨h9.1, ks_tr k_3 h9.2.1, kj_tr kj_3 h9.2.2⟩) (sd_B_X11_day_113 N hN σ_3 τ_3 x2 x3 x4 (k_3.1.2 hI))
  · simp only [fa_lt, fa_le, fa_eq] at c_1
    refine ok_ite (fun c_3 => ?_) (fun c_3 => ?_)
    · simp only [fa_lt, fa_le, fa_eq] at c_3
      refine ok_ite (fun c_4 => ?_) (fun c_4 => ?_)
      · simp only [fa_lt, fa_le, fa_eq] at c_4
        exact ok_mono (fun _ _ _ h9 => ⟨h9.1, ks_tr (ks_rf σ) h9.2.1, kj_tr (kj_rf τ) h9.2.2⟩) (sd_B_X11_day_113 N hN σ τ x2 x3 x4 ((ks_rf σ).1.2 hI))
      · simp only [fa_lt, fa_le, fa_eq] at c_4
        refine ok_bd (s_B_X3_push_0 N hN 37 is_37 σ τ ((ks_rf σ).1.2 hI)) (fun _ σ_6 τ_6 hp_6 => ?_)
        have k_6 : KS σ σ_6 := ks_tr (ks_rf σ) hp_6.2.1
        have kj_6 : KJ τ τ_6 := kj_tr (kj_rf τ) hp_6.2.2
        exact ok_mono (fun _ _ _ h9 => ⟨h9.1, ks_tr k_6 h9.2.1, kj_tr kj_6 h9.2.2⟩) (sd_B_X11_day_113 N hN σ_6 τ_6 x2 x3 x4 (k_6.1.2 hI))
    · simp only [fa_lt, fa_le, fa_eq] at c_3
      refine ok_bd (s_B_X11_perform_0 N hN σ τ x5 ((ks_rf σ).1.2 hI)) (fun r_7 σ_7 τ_7 hp_7 => ?_)
      have k_7 : KS σ σ_7 := ks_tr (ks_rf σ) hp_7.2.1
      have kj_7 : KJ τ τ_7 := kj_tr (kj_rf τ) hp_7.2.2
      refine ok_ite (fun c_5 => ?_) (fun c_5 => ?_)
      · simp only [fa_lt, fa_le, fa_eq] at c_5
        refine ok_nm (fun v_9 e_9 => ?_)
        exact ok_mono (fun _ _ _ h9 => ⟨h9.1, ks_tr k_7 h9.2.1, kj_tr kj_7 h9.2.2⟩) (hrec_48 σ_7 τ_7 x1 x2 x3 0 v_9 (k_7.1.2 hI) (by have : (0 : Int32).toInt = 0 := rfl; have : (1 : Int32).toInt = 1 := rfl; have := i32_rng r_7; have := i32_rng v_9; have := i32_rng x1; have := i32_rng x4; have := i32_rng x5; have u_v_9 : v_9.toInt = (x5).toInt + 1 := (by rw [e_9]; have q := ti_add (a := x5) (b := 1) (by rw [show (1 : Int32).toInt = 1 from rfl]; omega) (by rw [show (1 : Int32).toInt = 1 from rfl]; omega); rw [q, show (1 : Int32).toInt = 1 from rfl]); omega) (by have : (0 : Int32).toInt = 0 := rfl; have : (1 : Int32).toInt = 1 := rfl; have := i32_rng r_7; have := i32_rng v_9; have := i32_rng x1; have := i32_rng x4; have := i32_rng x5; have u_v_9 : v_9.toInt = (x5).toInt + 1 := (by rw [e_9]; have q := ti_add (a := x5) (b := 1) (by rw [show (1 : Int32).toInt = 1 from rfl]; omega) (by rw [show (1 : Int32).toInt = 1 from rfl]; omega); rw [q, show (1 : Int32).toInt = 1 from rfl]); omega))
      · simp only [fa_lt, fa_le, fa_eq] at c_5
        refine ok_nm (fun v_10 e_10 => ?_)
        refine ok_nm (fun v_11 e_11 => ?_)
        refine ok_nm (fun v_12 e_12 => ?_)
        exact ok_mono (fun _ _ _ h9 => ⟨h9.1, ks_tr k_7 h9.2.1, kj_tr kj_7 h9.2.2⟩) (hrec_48 σ_7 τ_7 x1 v_10 v_11 1 v_12 (k_7.1.2 hI) (by have : (0 : Int32).toInt = 0 := rfl; have : (1 : Int32).toInt = 1 := rfl; have := i32_rng r_7; have := i32_rng v_12; have := i32_rng x1; have := i32_rng x4; have := i32_rng x5; have u_v_12 : v_12.toInt = (x5).toInt + 1 := (by rw [e_12]; have q := ti_add (a := x5) (b := 1) (by rw [show (1 : Int32).toInt = 1 from rfl]; omega) (by rw [show (1 : Int32).toInt = 1 from rfl]; omega); rw [q, show (1 : Int32).toInt = 1 from rfl]); omega) (by have : (0 : Int32).toInt = 0 := rfl; have : (1 : Int32).toInt = 1 := rfl; have := i32_rng r_7; have := i32_rng v_12; have := i32_rng x1; have := i32_rng x4; have := i32_rng x5; have u_v_12 : v_12.toInt = (x5).toInt + 1 := (by rw [e_12]; have q := ti_add (a := x5) (b := 1) (by rw [show (1 : Int32).toInt = 1 from rfl]; omega) (by rw [show (1 : Int32).toInt = 1 from rfl]; omega); rw [q, show (1 : Int32).toInt = 1 from rfl]); omega))
theorem sd_H_X11_day_48 (N : Nat) (hN : 4294967296 ≤ N) : ∀ (n : Nat) (σ : gI) (τ : gJ) (x1 : Int32) (x2 : Int32) (x3 : Int32) (x4 : Int32) (x5 : Int32), IC σ → (0 ≤ x5.toInt) → (2147483647 - x5.toInt).toNat < n → okp (Kq σ τ (fun _ => True)) (H_X11_day_48 N n σ τ x1 x2 x3 x4 x5) := by
  intro n
  induction n with
  | zero => intro σ τ x1 x2 x3 x4 x5 _ _ hm; exact absurd hm (Nat.not_lt_zero _)
  | succ n ih =>
    intro σ τ x1 x2 x3 x4 x5 hI h0_48 hm
    exact sd_C_X11_day_48 N hN (H_X11_day_48 N n) n ih σ τ x1 x2 x3 x4 x5 hI h0_48 hm
/-! THE TEXT IS AS LONG ON BOTH SIDES -/
theorem ok_at {α : Type} {P : α → gI → gJ → Prop} {x : Option (α × gI × gJ)} {a : α} {σ : gI} {τ : gJ} (h : okp P x) (e : x = some (a, σ, τ)) : P a σ τ := by
  obtain ⟨a1, σ1, τ1, e1, h1⟩ := h
  rw [e] at e1
  obtain ⟨r1, r2, r3⟩ := sm_inj e1
  subst r1
  subst r2
  subst r3
  exact h1
section TL
variable {N : Nat} {σ σ1 : gI} {τ τ1 : gJ} {r : Int32}
theorem x_cut0 (h : B_X7_cut_0 N σ τ 0 = some (r, σ1, τ1)) (h0 : 0 ≤ (σ 1 2).toInt) : σ1 1 2 = 0 := by
  have l0 : (0 : Int32).toInt = 0 := rfl
  unfold B_X7_cut_0 at h
  rw [if_neg (show ¬ (0 : Int32) < 0 by decide), if_pos (show (0 : Int32) ≤ σ 1 2 from (fa_le _ _).mpr (by omega))] at h
  obtain ⟨s3, e3, h⟩ := nm_some h
  obtain ⟨-, rfl, -⟩ := sm_inj h
  rw [e3]
  unfold up2
  rw [if_pos ⟨rfl, rfl⟩]
theorem x_text {x : Option (Int32 × gI × gJ)} {C : Int32 → Prop} (hN : 4294967296 ≤ N) {k : Int32 → gI → gJ → Option (Int32 × gI × gJ)} (hI : IC σ) (h0 : 0 ≤ (σ 1 2).toInt) (hx : okp (Kq σ τ C) x) (hk : ∀ r1 r2 σ2 τ2, IC σ2 → k r1 σ2 τ2 = some (r2, σ1, τ1) → σ1 1 2 = σ2 1 2) (h : bd x (fun r1 σ1 τ1 => bd (B_X7_cut_0 N σ1 τ1 0) fun _ σ2 τ2 => k r1 σ2 τ2) = some (r, σ1, τ1)) : σ1 1 2 = 0 := by
  obtain ⟨r1, s1, t1, q1, h⟩ := bd_some h
  have k1 := ok_at hx q1
  obtain ⟨r2, s2, t2, q2, h⟩ := bd_some h
  have e2 := x_cut0 q2 (by rw [k1.2.1.2]; exact h0)
  have i1 := k1.2.1.1.2 hI
  have i2 := (ok_at (s_B_X7_cut_0 N hN s1 t1 0 i1) q2).2.1.2 i1
  rw [hk r1 r s2 t2 i2 h]
  exact e2
theorem xt_water (hN : 4294967296 ≤ N) (hI : IC σ) (h0 : 0 ≤ (σ 1 2).toInt) (h : B_X11_water_0 N σ τ = some (r, σ1, τ1)) : σ1 1 2 = 0 := by
  unfold B_X11_water_0 at h
  obtain ⟨r1, s1, t1, q1, h⟩ := bd_some h
  have k1 := ok_at (s_B_X10_read_0 N hN σ τ hI) q1
  obtain ⟨r2, s2, t2, q2, h⟩ := bd_some h
  obtain ⟨-, rfl, -⟩ := sm_inj h
  exact x_cut0 q2 (by rw [k1.2.1.2]; exact h0)
theorem xt_rule (hN : 4294967296 ≤ N) (hI : IC σ) (h0 : 0 ≤ (σ 1 2).toInt) (h : B_X11_rule_0 N σ τ = some (r, σ1, τ1)) : σ1 1 2 = 0 := by
  unfold B_X11_rule_0 at h
  refine x_text (k := fun r1 σ2 τ2 => if r1 < 0 then (some (r1, σ2, τ2)) else (bd (B_X5_copy_0 N σ2 τ2) fun _ σ_4 τ_4 => some (r1, σ_4, τ_4))) hN hI h0 (s_B_X5_read_0 N hN σ τ hI) (fun r1 r2 σ2 τ2 i2 e => ?_) h
  by_cases c : r1 < 0
  · rw [if_pos c] at e
    obtain ⟨-, rfl, -⟩ := sm_inj e
    rfl
  · rw [if_neg c] at e
    obtain ⟨r4, s4, t4, q4, e⟩ := bd_some e
    obtain ⟨-, rfl, -⟩ := sm_inj e
    exact (ok_at (s_B_X5_copy_0 N hN σ2 τ2 i2) q4).2.1.2
theorem xt_town (hN : 4294967296 ≤ N) (hI : IC σ) (h0 : 0 ≤ (σ 1 2).toInt) (h : B_X11_town_0 N σ τ = some (r, σ1, τ1)) : σ1 1 2 = 0 := by
  unfold B_X11_town_0 at h
  refine x_text (k := fun r1 σ_2 τ_2 => if 0 ≤ r1 then (bd (B_X8_copy_0 N σ_2 τ_2) fun _ σ_4 τ_4 => bd (B_X6_clear_0 N 30 σ_4 τ_4) fun _ σ_5 τ_5 => bd (B_X3_clear_0 N σ_5 τ_5) fun _ σ_6 τ_6 => nm (up2 σ_6 152 3 0) fun σ_7 => nm (up2 σ_7 0 11 0) fun σ_8 => some (r1, σ_8, τ_6)) else (some (r1, σ_2, τ_2))) hN hI h0 (s_B_X8_read_0 N hN σ τ hI) (fun r1 r2 σ2 τ2 i2 e => ?_) h
  by_cases c : 0 ≤ r1
  · rw [if_pos c] at e
    obtain ⟨r4, s4, t4, q4, e⟩ := bd_some e
    have k4 := (ok_at (s_B_X8_copy_0 N hN σ2 τ2 i2) q4).2.1
    obtain ⟨r5, s5, t5, q5, e⟩ := bd_some e
    have k5 := (ok_at (s_B_X6_clear_0 N hN 30 is_30 s4 t4 (k4.1.2 i2)) q5).2.1
    obtain ⟨r6, s6, t6, q6, e⟩ := bd_some e
    have k6 := (ok_at (s_B_X3_clear_0 N hN s5 t5 (k5.1.2 (k4.1.2 i2))) q6).2.1
    obtain ⟨s7, e7, e⟩ := nm_some e
    obtain ⟨s8, e8, e⟩ := nm_some e
    obtain ⟨-, rfl, -⟩ := sm_inj e
    rw [e8, up2_ne (by omega), e7, up2_ne (by omega), k6.2, k5.2, k4.2]
  · rw [if_neg c] at e
    obtain ⟨-, rfl, -⟩ := sm_inj e
    rfl
theorem xt_day (hN : 4294967296 ≤ N) (hI : IC σ) (h0 : 0 ≤ (σ 1 2).toInt) (h : B_X11_day_0 N σ τ = some (r, σ1, τ1)) : σ1 1 2 = 0 := by
  unfold B_X11_day_0 at h
  refine x_text (k := fun r1 σ_2 τ_2 => if 0 ≤ r1 then (bd (B_X6_copy_0 N 37 30 σ_2 τ_2) fun _ σ_4 τ_4 => H_X11_day_48 N N σ_4 τ_4 r1 0 0 1 0) else (some (r1, σ_2, τ_2))) hN hI h0 (s_B_X2_read_0 N hN σ τ hI) (fun r1 r2 σ2 τ2 i2 e => ?_) h
  by_cases c : 0 ≤ r1
  · rw [if_pos c] at e
    obtain ⟨r4, s4, t4, q4, e⟩ := bd_some e
    have k4 := (ok_at (s_B_X6_copy_0 N hN 37 is_37 30 is_30 σ2 τ2 i2) q4).2.1
    have l0 : (0 : Int32).toInt = 0 := rfl
    have k5 := (ok_at (sd_H_X11_day_48 N hN N s4 t4 r1 0 0 1 0 (k4.1.2 i2) (by omega) (by omega)) e).2.1
    rw [k5.2, k4.2]
  · rw [if_neg c] at e
    obtain ⟨-, rfl, -⟩ := sm_inj e
    rfl
theorem x_begins {x1 : Int32} (h : B_X12_begins_0 N σ τ x1 = some (r, σ1, τ1)) : σ1 199 13 = 0 := by
  unfold B_X12_begins_0 at h
  obtain ⟨v1, e1, h⟩ := nm_some h
  obtain ⟨s2, e2, h⟩ := nm_some h
  obtain ⟨s3, e3, h⟩ := nm_some h
  obtain ⟨s4, e4, h⟩ := nm_some h
  obtain ⟨s5, e5, h⟩ := nm_some h
  obtain ⟨-, rfl, -⟩ := sm_inj h
  rw [e5, up2_ne (by omega), e4, up2_ne (by omega), e3, up2_ne (by omega), e2]
  unfold up2
  rw [if_pos ⟨rfl, rfl⟩]
theorem xr_water (h : B_X12_water_0 N σ τ = some (r, σ1, τ1)) : σ1 199 13 = 0 := by
  unfold B_X12_water_0 at h
  obtain ⟨s1, e1, h⟩ := nm_some h
  obtain ⟨r2, s2, t2, q2, h⟩ := bd_some h
  rw [(fs_H_X12_water_14 N N s2 t2 _ _ _ _ _ h).1 199 13 (by omega)]
  exact x_begins q2
theorem xr_rule (h : B_X12_rule_0 N σ τ = some (r, σ1, τ1)) : σ1 199 13 = 0 := by
  unfold B_X12_rule_0 at h
  obtain ⟨s1, e1, h⟩ := nm_some h
  obtain ⟨r2, s2, t2, q2, h⟩ := bd_some h
  obtain ⟨s3, e3, h⟩ := nm_some h
  have z3 : s3 199 13 = 0 := by rw [e3, up2_ne (by omega)]; exact x_begins q2
  by_cases c : r2 = 0
  · rw [if_pos c] at h
    rw [(fs_B_X12_rule_34 N s3 t2 _ _ h).1 199 13 (by omega)]
    exact z3
  · rw [if_neg c] at h
    obtain ⟨r5, s5, t5, q5, h⟩ := bd_some h
    have z5 : s5 199 13 = 0 := by rw [((fr_R_X12_reads N 100).2 s3 t2 0 r5 s5 t5 q5).1 199 13 (by omega)]; exact z3
    by_cases c5 : r5 = 0
    · rw [if_pos c5] at h
      rw [(fs_B_X12_rule_34 N s5 t5 _ _ h).1 199 13 (by omega)]
      exact z5
    · rw [if_neg c5] at h
      rw [(fs_B_X12_rule_34 N s5 t5 _ _ h).1 199 13 (by omega)]
      exact z5
theorem xr_town (h : B_X12_town_0 N σ τ = some (r, σ1, τ1)) : σ1 199 13 = 0 := by
  unfold B_X12_town_0 at h
  obtain ⟨s1, e1, h⟩ := nm_some h
  obtain ⟨r2, s2, t2, q2, h⟩ := bd_some h
  obtain ⟨s3, e3, h⟩ := nm_some h
  obtain ⟨s4, e4, h⟩ := nm_some h
  have z4 : s4 199 13 = 0 := by rw [e4, up2_ne (by omega), e3, up2_ne (by omega)]; exact x_begins q2
  by_cases c : r2 ≤ 0
  · rw [if_pos c] at h
    rw [(fs_H_X12_town_34 N 14 s4 t2 _ _ _ _ _ _ h).1 199 13 (by omega)]
    exact z4
  · rw [if_neg c] at h
    rw [(fs_H_X12_town_34 N 14 s4 t2 _ _ _ _ _ _ h).1 199 13 (by omega)]
    exact z4
theorem xr_day (h : B_X12_day_0 N σ τ = some (r, σ1, τ1)) : σ1 199 13 = 0 := by
  unfold B_X12_day_0 at h
  obtain ⟨s1, e1, h⟩ := nm_some h
  obtain ⟨r2, s2, t2, q2, h⟩ := bd_some h
  obtain ⟨s3, e3, h⟩ := nm_some h
  have z3 : s3 199 13 = 0 := by rw [e3, up2_ne (by omega)]; exact x_begins q2
  by_cases c : r2 ≤ 0
  · rw [if_pos c] at h
    rw [(fs_H_X12_day_29 N N s3 t2 _ _ _ _ _ _ h).1 199 13 (by omega)]
    exact z3
  · rw [if_neg c] at h
    rw [(fs_H_X12_day_29 N N s3 t2 _ _ _ _ _ _ h).1 199 13 (by omega)]
    exact z3
theorem xt_sign {x1 : Int32} (h0 : 0 ≤ (σ 1 2).toInt) (h : B_X11_sign_0 N σ τ x1 = some (r, σ1, τ1)) : (σ 1 2 ≤ 76 ∧ r = σ 1 2 + 4 ∧ σ1 1 2 = σ 1 2 + 4) ∨ (¬ σ 1 2 ≤ 76 ∧ r = -1 ∧ σ1 1 2 = σ 1 2) := by
  have l0 : (0 : Int32).toInt = 0 := rfl
  unfold B_X11_sign_0 at h
  obtain ⟨r1, s1, t1, q1, h⟩ := bd_some h
  unfold B_X7_addFour_0 at q1
  rw [if_neg (show ¬ σ 1 2 < 0 from fun z => by rw [fa_lt] at z; omega)] at q1
  by_cases c : σ 1 2 ≤ 76
  · rw [if_pos c] at q1
    obtain ⟨j3, -, -, q1⟩ := ck_some q1
    obtain ⟨s4, e4, q1⟩ := nm_some q1
    obtain ⟨j5, -, -, q1⟩ := ck_some q1
    obtain ⟨s6, e6, q1⟩ := nm_some q1
    obtain ⟨j7, -, -, q1⟩ := ck_some q1
    obtain ⟨s8, e8, q1⟩ := nm_some q1
    obtain ⟨j9, -, -, q1⟩ := ck_some q1
    obtain ⟨s10, e10, q1⟩ := nm_some q1
    obtain ⟨s11, e11, q1⟩ := nm_some q1
    obtain ⟨rfl, rfl, rfl⟩ := sm_inj q1
    have z10 : s10 1 2 = σ 1 2 := by rw [e10, up2_ne (by omega), e8, up2_ne (by omega), e6, up2_ne (by omega), e4, up2_ne (by omega)]
    have z11 : s11 1 2 = σ 1 2 + 4 := by rw [e11]; unfold up2; rw [if_pos ⟨rfl, rfl⟩, z10]
    rw [if_neg (show ¬ (1 : Int32) = 0 by decide)] at h
    obtain ⟨rfl, rfl, -⟩ := sm_inj h
    exact Or.inl ⟨c, z11, z11⟩
  · rw [if_neg c] at q1
    obtain ⟨rfl, rfl, rfl⟩ := sm_inj q1
    rw [if_pos (show (0 : Int32) = 0 from rfl)] at h
    obtain ⟨rfl, rfl, -⟩ := sm_inj h
    exact Or.inr ⟨c, rfl, rfl⟩
theorem xr_sign {x1 : Int32} (h : B_X12_sign_0 N σ τ x1 = some (r, σ1, τ1)) : (σ 199 13 ≤ 76 ∧ r = σ 199 13 + 4 ∧ σ1 199 13 = σ 199 13 + 4) ∨ (¬ σ 199 13 ≤ 76 ∧ r = -1 ∧ σ1 199 13 = σ 199 13) := by
  unfold B_X12_sign_0 at h
  obtain ⟨s1, e1, h⟩ := nm_some h
  have z1 : s1 199 13 = σ 199 13 := by rw [e1]; exact up2_ne (by omega)
  rw [z1] at h
  by_cases c : σ 199 13 ≤ 76
  · rw [if_pos c] at h
    have H : ∀ (n : Nat) (σ2 : gI) (τ2 : gJ) (x2 r : Int32) (σ1 : gI) (τ1 : gJ), H_X12_sign_18 N n σ2 τ2 x1 x2 = some (r, σ1, τ1) → r = σ2 199 13 + 4 ∧ σ1 199 13 = σ2 199 13 + 4 := by
      intro n
      induction n with
      | zero => intro σ2 τ2 x2 r σ1 τ1 h; cases h
      | succ n ih =>
        intro σ2 τ2 x2 r σ1 τ1 h
        have h : C_X12_sign_18 N (H_X12_sign_18 N n) σ2 τ2 x1 x2 = some (r, σ1, τ1) := h
        unfold C_X12_sign_18 at h
        by_cases c4 : (4 : Int32) ≤ x2
        · rw [if_pos c4] at h
          obtain ⟨s2, e2, h⟩ := nm_some h
          obtain ⟨rfl, rfl, -⟩ := sm_inj h
          have z2 : s2 199 13 = σ2 199 13 + 4 := by rw [e2]; unfold up2; rw [if_pos ⟨rfl, rfl⟩]
          exact ⟨z2, z2⟩
        · rw [if_neg c4] at h
          obtain ⟨j3, -, -, h⟩ := ck_some h
          obtain ⟨s4, e4, h⟩ := nm_some h
          obtain ⟨v5, e5, h⟩ := nm_some h
          have z4 : s4 199 13 = σ2 199 13 := by rw [e4]; exact up2_ne (by omega)
          have q := ih s4 τ2 v5 r σ1 τ1 h
          rw [z4] at q
          exact q
    have q := H N s1 τ 0 r σ1 τ1 h
    rw [z1] at q
    exact Or.inl ⟨c, q.1, q.2⟩
  · rw [if_neg c] at h
    obtain ⟨rfl, rfl, -⟩ := sm_inj h
    exact Or.inr ⟨c, rfl, z1⟩
theorem xt_end {x1 : Int32} (h : B_X11_end_0 N σ τ x1 = some (r, σ1, τ1)) : ((0 ≤ x1.toInt ∧ x1.toInt ≤ (σ 1 2).toInt) ∧ r = 1 ∧ σ1 1 2 = x1) ∨ (¬ (0 ≤ x1.toInt ∧ x1.toInt ≤ (σ 1 2).toInt) ∧ r = 0 ∧ σ1 1 2 = σ 1 2) := by
  have l0 : (0 : Int32).toInt = 0 := rfl
  unfold B_X11_end_0 at h
  obtain ⟨r1, s1, t1, q1, h⟩ := bd_some h
  obtain ⟨-, h⟩ := cb_some h
  obtain ⟨rfl, rfl, -⟩ := sm_inj h
  unfold B_X7_cut_0 at q1
  by_cases c : x1 < 0
  · rw [if_pos c] at q1
    rw [fa_lt] at c
    obtain ⟨rfl, rfl, -⟩ := sm_inj q1
    exact Or.inr ⟨by omega, rfl, rfl⟩
  · rw [if_neg c] at q1
    rw [fa_lt] at c
    by_cases c2 : x1 ≤ σ 1 2
    · rw [if_pos c2] at q1
      rw [fa_le] at c2
      obtain ⟨s3, e3, q1⟩ := nm_some q1
      obtain ⟨rfl, rfl, -⟩ := sm_inj q1
      exact Or.inl ⟨by omega, rfl, by rw [e3]; unfold up2; rw [if_pos ⟨rfl, rfl⟩]⟩
    · rw [if_neg c2] at q1
      rw [fa_le] at c2
      obtain ⟨rfl, rfl, -⟩ := sm_inj q1
      exact Or.inr ⟨by omega, rfl, rfl⟩
theorem x_in {x0 x2 x4 : Int64} (h : B_X12_in_0 N σ τ x0 x2 x4 = some (r, σ1, τ1)) : σ1 = σ ∧ ((r = 1 ∧ (x2.toInt ≤ x0.toInt ∧ x0.toInt ≤ x4.toInt)) ∨ (r = 0 ∧ ¬ (x2.toInt ≤ x0.toInt ∧ x0.toInt ≤ x4.toInt))) := by
  unfold B_X12_in_0 at h
  by_cases c1 : lg_cmp x0 x2 < 0
  · rw [if_pos c1] at h
    obtain ⟨rfl, rfl, -⟩ := sm_inj h
    have := (gx_cl _ _).mp c1
    exact ⟨rfl, Or.inr ⟨rfl, by omega⟩⟩
  · rw [if_neg c1] at h
    have t1 := Int.not_lt.mp (fun q => c1 ((gx_cl _ _).mpr q))
    by_cases c2 : 0 < lg_cmp x0 x4
    · rw [if_pos c2] at h
      obtain ⟨rfl, rfl, -⟩ := sm_inj h
      have := (gx_cg _ _).mp c2
      exact ⟨rfl, Or.inr ⟨rfl, by omega⟩⟩
    · rw [if_neg c2] at h
      have t2 := Int.not_lt.mp (fun q => c2 ((gx_cg _ _).mpr q))
      obtain ⟨rfl, rfl, -⟩ := sm_inj h
      exact ⟨rfl, Or.inl ⟨rfl, t1, t2⟩⟩
theorem xr_end {x1 : Int32} (h : B_X12_end_0 N σ τ x1 = some (r, σ1, τ1)) : ((0 ≤ x1.toInt ∧ x1.toInt ≤ (σ 199 13).toInt) ∧ r = 1 ∧ σ1 199 13 = x1) ∨ (¬ (0 ≤ x1.toInt ∧ x1.toInt ≤ (σ 199 13).toInt) ∧ r = 0 ∧ σ1 199 13 = σ 199 13) := by
  have o : (0 : Int64).toInt = 0 := rfl
  unfold B_X12_end_0 at h
  obtain ⟨s1, e1, h⟩ := nm_some h
  have z1 : s1 199 13 = σ 199 13 := by rw [e1]; exact up2_ne (by omega)
  obtain ⟨r2, s2, t2, q2, h⟩ := bd_some h
  have k := x_in q2
  rw [Int32.toInt_toInt64, Int32.toInt_toInt64, z1, o] at k
  obtain ⟨rfl, k⟩ := k
  rcases k with ⟨rfl, k⟩ | ⟨rfl, k⟩
  · rw [if_neg (show ¬ (1 : Int32) = 0 by decide)] at h
    obtain ⟨s4, e4, h⟩ := nm_some h
    obtain ⟨rfl, rfl, -⟩ := sm_inj h
    exact Or.inl ⟨k, rfl, by rw [e4]; unfold up2; rw [if_pos ⟨rfl, rfl⟩]⟩
  · rw [if_pos (show (0 : Int32) = 0 from rfl)] at h
    obtain ⟨rfl, rfl, -⟩ := sm_inj h
    exact Or.inr ⟨k, rfl, z1⟩
end TL
