set_option maxHeartbeats 2000000 in
theorem fr_B_J6_bitCount_0f7a4_0 (N : Nat) (σ : gI) (τ : gJ) (x0 : Int32) {r : Int32} {σ1 : gI} {τ1 : gJ} (h : B_J6_bitCount_0f7a4_0 N σ τ x0 = some (r, σ1, τ1)) : (∀ c k : Nat, ¬ (False) → σ1 c k = σ c k) ∧ (∀ c k : Nat, τ1 c k = τ c k) := by
  unfold B_J6_bitCount_0f7a4_0 at h
  obtain ⟨v_1, e_1, h⟩ := nm_some h
  obtain ⟨v_2, e_2, h⟩ := nm_some h
  obtain ⟨v_3, e_3, h⟩ := nm_some h
  obtain ⟨v_4, e_4, h⟩ := nm_some h
  obtain ⟨v_5, e_5, h⟩ := nm_some h
  obtain ⟨rfl, rfl, rfl⟩ := sm_inj h
  refine ⟨fun c k hn => ?_, fun c k => ?_⟩
  · rfl
  · rfl
set_option maxHeartbeats 2000000 in
theorem fr_B_J0_isLatin1_aae02_0 (N : Nat) (bs : List Int32) (σ : gI) (τ : gJ) {r : Int32} {σ1 : gI} {τ1 : gJ} (h : B_J0_isLatin1_aae02_0 N bs σ τ = some (r, σ1, τ1)) : (∀ c k : Nat, ¬ (False) → σ1 c k = σ c k) ∧ (∀ c k : Nat, τ1 c k = τ c k) := by
  unfold B_J0_isLatin1_aae02_0 at h
  obtain ⟨rfl, rfl, rfl⟩ := sm_inj h
  refine ⟨fun c k hn => ?_, fun c k => ?_⟩
  · rfl
  · rfl
set_option maxHeartbeats 2000000 in
theorem fr_B_J0_coder_7d493_0 (N : Nat) (bs : List Int32) (σ : gI) (τ : gJ) {r : Int32} {σ1 : gI} {τ1 : gJ} (h : B_J0_coder_7d493_0 N bs σ τ = some (r, σ1, τ1)) : (∀ c k : Nat, ¬ (False) → σ1 c k = σ c k) ∧ (∀ c k : Nat, τ1 c k = τ c k) := by
  unfold B_J0_coder_7d493_0 at h
  obtain ⟨rfl, rfl, rfl⟩ := sm_inj h
  refine ⟨fun c k hn => ?_, fun c k => ?_⟩
  · rfl
  · rfl
set_option maxHeartbeats 2000000 in
theorem fr_B_J0_length_8abf5_0 (N : Nat) (bs : List Int32) (σ : gI) (τ : gJ) {r : Int32} {σ1 : gI} {τ1 : gJ} (h : B_J0_length_8abf5_0 N bs σ τ = some (r, σ1, τ1)) : (∀ c k : Nat, ¬ (False) → σ1 c k = σ c k) ∧ (∀ c k : Nat, τ1 c k = τ c k) := by
  unfold B_J0_length_8abf5_0 at h
  obtain ⟨r_1, σ_1, τ_1, q_1, h⟩ := bd_some h
  have f_1 := fr_B_J0_coder_7d493_0 N bs σ τ q_1
  obtain ⟨rfl, rfl, rfl⟩ := sm_inj h
  refine ⟨fun c k hn => ?_, fun c k => ?_⟩
  · rw [f_1.1 c k id]
  · rw [f_1.2 c k]
set_option maxHeartbeats 2000000 in
theorem fr_B_J1_canEncode_9a6ad_0 (N : Nat) (σ : gI) (τ : gJ) (x0 : Int32) {r : Int32} {σ1 : gI} {τ1 : gJ} (h : B_J1_canEncode_9a6ad_0 N σ τ x0 = some (r, σ1, τ1)) : (∀ c k : Nat, ¬ (False) → σ1 c k = σ c k) ∧ (∀ c k : Nat, τ1 c k = τ c k) := by
  unfold B_J1_canEncode_9a6ad_0 at h
  by_cases c_1 : x0 < 0
  · rw [if_pos c_1] at h
    obtain ⟨rfl, rfl, rfl⟩ := sm_inj h
    refine ⟨fun c k hn => ?_, fun c k => ?_⟩
    · rfl
    · rfl
  · rw [if_neg c_1] at h
    by_cases c_2 : 255 < x0
    · rw [if_pos c_2] at h
      obtain ⟨rfl, rfl, rfl⟩ := sm_inj h
      refine ⟨fun c k hn => ?_, fun c k => ?_⟩
      · rfl
      · rfl
    · rw [if_neg c_2] at h
      obtain ⟨rfl, rfl, rfl⟩ := sm_inj h
      refine ⟨fun c k hn => ?_, fun c k => ?_⟩
      · rfl
      · rfl
set_option maxHeartbeats 2000000 in
theorem fr_C_J1_indexOfChar_4cfef_7 (N : Nat) (bs : List Int32) (rec_7 : gI → gJ → Int32 → Int32 → Int32 → Option (Int32 × gI × gJ)) (hrec_7 : ∀ (σ : gI) (τ : gJ) (x3 : Int32) (x4 : Int32) (x5 : Int32) (r : Int32) (σ1 : gI) (τ1 : gJ), rec_7 σ τ x3 x4 x5 = some (r, σ1, τ1) → (∀ c k : Nat, ¬ (False) → σ1 c k = σ c k) ∧ (∀ c k : Nat, τ1 c k = τ c k)) (σ : gI) (τ : gJ) (x3 : Int32) (x4 : Int32) (x5 : Int32) {r : Int32} {σ1 : gI} {τ1 : gJ} (h : C_J1_indexOfChar_4cfef_7 N bs rec_7 σ τ x3 x4 x5 = some (r, σ1, τ1)) : (∀ c k : Nat, ¬ (False) → σ1 c k = σ c k) ∧ (∀ c k : Nat, τ1 c k = τ c k) := by
  unfold C_J1_indexOfChar_4cfef_7 at h
  by_cases c_1 : x3 ≤ x5
  · rw [if_pos c_1] at h
    obtain ⟨rfl, rfl, rfl⟩ := sm_inj h
    refine ⟨fun c k hn => ?_, fun c k => ?_⟩
    · rfl
    · rfl
  · rw [if_neg c_1] at h
    obtain ⟨j_2, -, -, h⟩ := ck_some h
    by_cases c_2 : bs.getD j_2 0 = x4
    · rw [if_pos c_2] at h
      obtain ⟨rfl, rfl, rfl⟩ := sm_inj h
      refine ⟨fun c k hn => ?_, fun c k => ?_⟩
      · rfl
      · rfl
    · rw [if_neg c_2] at h
      obtain ⟨v_4, e_4, h⟩ := nm_some h
      have f9 := hrec_7 σ τ x3 x4 v_4 _ _ _ h
      refine ⟨fun c k hn => (f9.1 c k hn).trans ?_, fun c k => (f9.2 c k).trans ?_⟩
      · rfl
      · rfl
theorem fr_H_J1_indexOfChar_4cfef_7 (N : Nat) (bs : List Int32) : ∀ (n : Nat) (σ : gI) (τ : gJ) (x3 : Int32) (x4 : Int32) (x5 : Int32) (r : Int32) (σ1 : gI) (τ1 : gJ), H_J1_indexOfChar_4cfef_7 N bs n σ τ x3 x4 x5 = some (r, σ1, τ1) → (∀ c k : Nat, ¬ (False) → σ1 c k = σ c k) ∧ (∀ c k : Nat, τ1 c k = τ c k) := by
  intro n
  induction n with
  | zero => intro σ τ x3 x4 x5 r σ1 τ1 h; cases h
  | succ n ih =>
    intro σ τ x3 x4 x5 r σ1 τ1 h
    exact fr_C_J1_indexOfChar_4cfef_7 N bs (H_J1_indexOfChar_4cfef_7 N bs n) ih σ τ x3 x4 x5 h
set_option maxHeartbeats 2000000 in
theorem fr_B_J1_indexOfChar_4cfef_0 (N : Nat) (bs : List Int32) (σ : gI) (τ : gJ) (x1 : Int32) (x2 : Int32) (x3 : Int32) {r : Int32} {σ1 : gI} {τ1 : gJ} (h : B_J1_indexOfChar_4cfef_0 N bs σ τ x1 x2 x3 = some (r, σ1, τ1)) : (∀ c k : Nat, ¬ (False) → σ1 c k = σ c k) ∧ (∀ c k : Nat, τ1 c k = τ c k) := by
  unfold B_J1_indexOfChar_4cfef_0 at h
  obtain ⟨v_1, e_1, h⟩ := nm_some h
  have f9 := fr_H_J1_indexOfChar_4cfef_7 N bs N σ τ x3 v_1 x2 _ _ _ h
  refine ⟨fun c k hn => (f9.1 c k hn).trans ?_, fun c k => (f9.2 c k).trans ?_⟩
  · rfl
  · rfl
set_option maxHeartbeats 2000000 in
theorem fr_B_J1_indexOf_4cfef_0 (N : Nat) (bs : List Int32) (σ : gI) (τ : gJ) (x1 : Int32) (x2 : Int32) (x3 : Int32) {r : Int32} {σ1 : gI} {τ1 : gJ} (h : B_J1_indexOf_4cfef_0 N bs σ τ x1 x2 x3 = some (r, σ1, τ1)) : (∀ c k : Nat, ¬ (False) → σ1 c k = σ c k) ∧ (∀ c k : Nat, τ1 c k = τ c k) := by
  unfold B_J1_indexOf_4cfef_0 at h
  obtain ⟨r_1, σ_1, τ_1, q_1, h⟩ := bd_some h
  have f_1 := fr_B_J1_canEncode_9a6ad_0 N σ τ x1 q_1
  by_cases c_1 : r_1 = 0
  · rw [if_pos c_1] at h
    obtain ⟨rfl, rfl, rfl⟩ := sm_inj h
    refine ⟨fun c k hn => ?_, fun c k => ?_⟩
    · rw [f_1.1 c k id]
    · rw [f_1.2 c k]
  · rw [if_neg c_1] at h
    obtain ⟨v_3, e_3, h⟩ := nm_some h
    obtain ⟨v_4, e_4, h⟩ := nm_some h
    by_cases c_2 : v_3 < v_4
    · rw [if_pos c_2] at h
      obtain ⟨r_6, σ_6, τ_6, q_6, h⟩ := bd_some h
      have f_6 := fr_B_J1_indexOfChar_4cfef_0 N bs σ_1 τ_1 x1 v_3 v_4 q_6
      obtain ⟨rfl, rfl, rfl⟩ := sm_inj h
      refine ⟨fun c k hn => ?_, fun c k => ?_⟩
      · rw [f_6.1 c k id, f_1.1 c k id]
      · rw [f_6.2 c k, f_1.2 c k]
    · rw [if_neg c_2] at h
      obtain ⟨rfl, rfl, rfl⟩ := sm_inj h
      refine ⟨fun c k hn => ?_, fun c k => ?_⟩
      · rw [f_1.1 c k id]
      · rw [f_1.2 c k]
set_option maxHeartbeats 2000000 in
theorem fr_B_J3_checkFromToIndex_8c36e_0 (N : Nat) (σ : gI) (τ : gJ) (x0 : Int32) (x1 : Int32) (x2 : Int32) {r : Int32} {σ1 : gI} {τ1 : gJ} (h : B_J3_checkFromToIndex_8c36e_0 N σ τ x0 x1 x2 = some (r, σ1, τ1)) : (∀ c k : Nat, ¬ (False) → σ1 c k = σ c k) ∧ (∀ c k : Nat, τ1 c k = τ c k) := by
  unfold B_J3_checkFromToIndex_8c36e_0 at h
  by_cases c_1 : x0 < 0
  · rw [if_pos c_1] at h
    cases h
  · rw [if_neg c_1] at h
    by_cases c_2 : x1 < x0
    · rw [if_pos c_2] at h
      cases h
    · rw [if_neg c_2] at h
      by_cases c_3 : x1 ≤ x2
      · rw [if_pos c_3] at h
        obtain ⟨rfl, rfl, rfl⟩ := sm_inj h
        refine ⟨fun c k hn => ?_, fun c k => ?_⟩
        · rfl
        · rfl
      · rw [if_neg c_3] at h
        cases h
set_option maxHeartbeats 2000000 in
theorem fr_B_J0_checkBoundsBeginEnd_23922_0 (N : Nat) (σ : gI) (τ : gJ) (x0 : Int32) (x1 : Int32) (x2 : Int32) {r : Unit} {σ1 : gI} {τ1 : gJ} (h : B_J0_checkBoundsBeginEnd_23922_0 N σ τ x0 x1 x2 = some (r, σ1, τ1)) : (∀ c k : Nat, ¬ (False) → σ1 c k = σ c k) ∧ (∀ c k : Nat, τ1 c k = τ c k) := by
  unfold B_J0_checkBoundsBeginEnd_23922_0 at h
  obtain ⟨r_2, σ_2, τ_2, q_2, h⟩ := bd_some h
  have f_2 := fr_B_J3_checkFromToIndex_8c36e_0 N σ τ x0 x1 x2 q_2
  obtain ⟨-, rfl, rfl⟩ := sm_inj h
  refine ⟨fun c k hn => ?_, fun c k => ?_⟩
  · rw [f_2.1 c k id]
  · rw [f_2.2 c k]
set_option maxHeartbeats 2000000 in
theorem fr_B_J0_indexOf_7cf53_0 (N : Nat) (bs : List Int32) (σ : gI) (τ : gJ) (x1 : Int32) (x2 : Int32) {r : Int32} {σ1 : gI} {τ1 : gJ} (h : B_J0_indexOf_7cf53_0 N bs σ τ x1 x2 = some (r, σ1, τ1)) : (∀ c k : Nat, ¬ (False) → σ1 c k = σ c k) ∧ (∀ c k : Nat, τ1 c k = τ c k) := by
  unfold B_J0_indexOf_7cf53_0 at h
  obtain ⟨r_1, σ_1, τ_1, q_1, h⟩ := bd_some h
  have f_1 := fr_B_J0_isLatin1_aae02_0 N bs σ τ q_1
  by_cases c_1 : r_1 = 0
  · rw [if_pos c_1] at h
    obtain ⟨r_3, σ_3, τ_3, q_3, h⟩ := bd_some h
    have f_3 := fr_B_J0_length_8abf5_0 N bs σ_1 τ_1 q_3
    cases h
  · rw [if_neg c_1] at h
    obtain ⟨r_4, σ_4, τ_4, q_4, h⟩ := bd_some h
    have f_4 := fr_B_J0_length_8abf5_0 N bs σ_1 τ_1 q_4
    obtain ⟨r_5, σ_5, τ_5, q_5, h⟩ := bd_some h
    have f_5 := fr_B_J1_indexOf_4cfef_0 N bs σ_4 τ_4 x1 x2 r_4 q_5
    obtain ⟨rfl, rfl, rfl⟩ := sm_inj h
    refine ⟨fun c k hn => ?_, fun c k => ?_⟩
    · rw [f_5.1 c k id, f_4.1 c k id, f_1.1 c k id]
    · rw [f_5.2 c k, f_4.2 c k, f_1.2 c k]
set_option maxHeartbeats 2000000 in
theorem fr_B_J0_indexOf_0f7a4_0 (N : Nat) (bs : List Int32) (σ : gI) (τ : gJ) (x1 : Int32) {r : Int32} {σ1 : gI} {τ1 : gJ} (h : B_J0_indexOf_0f7a4_0 N bs σ τ x1 = some (r, σ1, τ1)) : (∀ c k : Nat, ¬ (False) → σ1 c k = σ c k) ∧ (∀ c k : Nat, τ1 c k = τ c k) := by
  unfold B_J0_indexOf_0f7a4_0 at h
  obtain ⟨r_1, σ_1, τ_1, q_1, h⟩ := bd_some h
  have f_1 := fr_B_J0_indexOf_7cf53_0 N bs σ τ x1 0 q_1
  obtain ⟨rfl, rfl, rfl⟩ := sm_inj h
  refine ⟨fun c k hn => ?_, fun c k => ?_⟩
  · rw [f_1.1 c k id]
  · rw [f_1.2 c k]
set_option maxHeartbeats 2000000 in
theorem fr_C_X12_adds_21 (N : Nat) (rec_21 : gI → gJ → Int32 → Int32 → Option (Int32 × gI × gJ)) (hrec_21 : ∀ (σ : gI) (τ : gJ) (x1 : Int32) (x2 : Int32) (r : Int32) (σ1 : gI) (τ1 : gJ), rec_21 σ τ x1 x2 = some (r, σ1, τ1) → (∀ c k : Nat, ¬ (c = 219 ∨ (c = 199 ∧ (k = 36))) → σ1 c k = σ c k) ∧ (∀ c k : Nat, τ1 c k = τ c k)) (σ : gI) (τ : gJ) (x1 : Int32) (x2 : Int32) {r : Int32} {σ1 : gI} {τ1 : gJ} (h : C_X12_adds_21 N rec_21 σ τ x1 x2 = some (r, σ1, τ1)) : (∀ c k : Nat, ¬ (c = 219 ∨ (c = 199 ∧ (k = 36))) → σ1 c k = σ c k) ∧ (∀ c k : Nat, τ1 c k = τ c k) := by
  unfold C_X12_adds_21 at h
  by_cases c_1 : 675 ≤ x2
  · rw [if_pos c_1] at h
    obtain ⟨σ_2, e_2, h⟩ := nm_some h
    obtain ⟨rfl, rfl, rfl⟩ := sm_inj h
    refine ⟨fun c k hn => ?_, fun c k => ?_⟩
    · rw [e_2, up2_ne (by omega)]
    · rfl
  · rw [if_neg c_1] at h
    obtain ⟨j_3, -, -, h⟩ := ck_some h
    obtain ⟨j_4, -, -, h⟩ := ck_some h
    obtain ⟨σ_5, e_5, h⟩ := nm_some h
    obtain ⟨v_6, e_6, h⟩ := nm_some h
    have f9 := hrec_21 σ_5 τ x1 v_6 _ _ _ h
    refine ⟨fun c k hn => (f9.1 c k hn).trans ?_, fun c k => (f9.2 c k).trans ?_⟩
    · rw [e_5, up2_ne (by omega)]
    · rfl
theorem fr_H_X12_adds_21 (N : Nat) : ∀ (n : Nat) (σ : gI) (τ : gJ) (x1 : Int32) (x2 : Int32) (r : Int32) (σ1 : gI) (τ1 : gJ), H_X12_adds_21 N n σ τ x1 x2 = some (r, σ1, τ1) → (∀ c k : Nat, ¬ (c = 219 ∨ (c = 199 ∧ (k = 36))) → σ1 c k = σ c k) ∧ (∀ c k : Nat, τ1 c k = τ c k) := by
  intro n
  induction n with
  | zero => intro σ τ x1 x2 r σ1 τ1 h; cases h
  | succ n ih =>
    intro σ τ x1 x2 r σ1 τ1 h
    exact fr_C_X12_adds_21 N (H_X12_adds_21 N n) ih σ τ x1 x2 h
set_option maxHeartbeats 2000000 in
theorem fr_B_X12_adds_0 (N : Nat) (σ : gI) (τ : gJ) (x1 : Int32) {r : Int32} {σ1 : gI} {τ1 : gJ} (h : B_X12_adds_0 N σ τ x1 = some (r, σ1, τ1)) : (∀ c k : Nat, ¬ (c = 219 ∨ (c = 199 ∧ (k = 36))) → σ1 c k = σ c k) ∧ (∀ c k : Nat, τ1 c k = τ c k) := by
  unfold B_X12_adds_0 at h
  obtain ⟨σ_1, e_1, h⟩ := nm_some h
  by_cases c_1 : σ_1 199 36 ≤ 15
  · rw [if_pos c_1] at h
    obtain ⟨rfl, rfl, rfl⟩ := sm_inj h
    refine ⟨fun c k hn => ?_, fun c k => ?_⟩
    · rw [e_1, up2_ne (by omega)]
    · rfl
  · rw [if_neg c_1] at h
    have f9 := fr_H_X12_adds_21 N N σ_1 τ x1 0 _ _ _ h
    refine ⟨fun c k hn => (f9.1 c k hn).trans ?_, fun c k => (f9.2 c k).trans ?_⟩
    · rw [e_1, up2_ne (by omega)]
    · rfl
set_option maxHeartbeats 2000000 in
theorem fr_B_X12_in_0 (N : Nat) (σ : gI) (τ : gJ) (x0 : Int64) (x2 : Int64) (x4 : Int64) {r : Int32} {σ1 : gI} {τ1 : gJ} (h : B_X12_in_0 N σ τ x0 x2 x4 = some (r, σ1, τ1)) : (∀ c k : Nat, ¬ (False) → σ1 c k = σ c k) ∧ (∀ c k : Nat, τ1 c k = τ c k) := by
  unfold B_X12_in_0 at h
  by_cases c_1 : lg_cmp x0 x2 < 0
  · rw [if_pos c_1] at h
    obtain ⟨rfl, rfl, rfl⟩ := sm_inj h
    refine ⟨fun c k hn => ?_, fun c k => ?_⟩
    · rfl
    · rfl
  · rw [if_neg c_1] at h
    by_cases c_2 : 0 < lg_cmp x0 x4
    · rw [if_pos c_2] at h
      obtain ⟨rfl, rfl, rfl⟩ := sm_inj h
      refine ⟨fun c k hn => ?_, fun c k => ?_⟩
      · rfl
      · rfl
    · rw [if_neg c_2] at h
      obtain ⟨rfl, rfl, rfl⟩ := sm_inj h
      refine ⟨fun c k hn => ?_, fun c k => ?_⟩
      · rfl
      · rfl
set_option maxHeartbeats 2000000 in
theorem fr_C_X12_again_30 (N : Nat) (rec_30 : gI → gJ → Int32 → Int32 → Option (Int32 × gI × gJ)) (hrec_30 : ∀ (σ : gI) (τ : gJ) (x1 : Int32) (x2 : Int32) (r : Int32) (σ1 : gI) (τ1 : gJ), rec_30 σ τ x1 x2 = some (r, σ1, τ1) → (∀ c k : Nat, ¬ (c = 206 ∨ (c = 199 ∧ (k = 0 ∨ k = 36))) → σ1 c k = σ c k) ∧ (∀ c k : Nat, τ1 c k = τ c k)) (σ : gI) (τ : gJ) (x1 : Int32) (x2 : Int32) {r : Int32} {σ1 : gI} {τ1 : gJ} (h : C_X12_again_30 N rec_30 σ τ x1 x2 = some (r, σ1, τ1)) : (∀ c k : Nat, ¬ (c = 206 ∨ (c = 199 ∧ (k = 0 ∨ k = 36))) → σ1 c k = σ c k) ∧ (∀ c k : Nat, τ1 c k = τ c k) := by
  unfold C_X12_again_30 at h
  by_cases c_1 : 45 ≤ x2
  · rw [if_pos c_1] at h
    obtain ⟨σ_2, e_2, h⟩ := nm_some h
    obtain ⟨rfl, rfl, rfl⟩ := sm_inj h
    refine ⟨fun c k hn => ?_, fun c k => ?_⟩
    · rw [e_2, up2_ne (by omega)]
    · rfl
  · rw [if_neg c_1] at h
    obtain ⟨j_3, -, -, h⟩ := ck_some h
    obtain ⟨j_4, -, -, h⟩ := ck_some h
    obtain ⟨σ_5, e_5, h⟩ := nm_some h
    obtain ⟨v_6, e_6, h⟩ := nm_some h
    have f9 := hrec_30 σ_5 τ x1 v_6 _ _ _ h
    refine ⟨fun c k hn => (f9.1 c k hn).trans ?_, fun c k => (f9.2 c k).trans ?_⟩
    · rw [e_5, up2_ne (by omega)]
    · rfl
theorem fr_H_X12_again_30 (N : Nat) : ∀ (n : Nat) (σ : gI) (τ : gJ) (x1 : Int32) (x2 : Int32) (r : Int32) (σ1 : gI) (τ1 : gJ), H_X12_again_30 N n σ τ x1 x2 = some (r, σ1, τ1) → (∀ c k : Nat, ¬ (c = 206 ∨ (c = 199 ∧ (k = 0 ∨ k = 36))) → σ1 c k = σ c k) ∧ (∀ c k : Nat, τ1 c k = τ c k) := by
  intro n
  induction n with
  | zero => intro σ τ x1 x2 r σ1 τ1 h; cases h
  | succ n ih =>
    intro σ τ x1 x2 r σ1 τ1 h
    exact fr_C_X12_again_30 N (H_X12_again_30 N n) ih σ τ x1 x2 h
set_option maxHeartbeats 2000000 in
theorem fr_B_X12_again_0 (N : Nat) (σ : gI) (τ : gJ) (x1 : Int32) {r : Int32} {σ1 : gI} {τ1 : gJ} (h : B_X12_again_0 N σ τ x1 = some (r, σ1, τ1)) : (∀ c k : Nat, ¬ (c = 206 ∨ (c = 199 ∧ (k = 0 ∨ k = 36))) → σ1 c k = σ c k) ∧ (∀ c k : Nat, τ1 c k = τ c k) := by
  unfold B_X12_again_0 at h
  obtain ⟨σ_1, e_1, h⟩ := nm_some h
  obtain ⟨r_2, σ_2, τ_2, q_2, h⟩ := bd_some h
  have f_2 := fr_B_X12_in_0 N σ_1 τ x1.toInt64 0 2 q_2
  by_cases c_1 : r_2 = 0
  · rw [if_pos c_1] at h
    obtain ⟨rfl, rfl, rfl⟩ := sm_inj h
    refine ⟨fun c k hn => ?_, fun c k => ?_⟩
    · rw [f_2.1 c k id, e_1, up2_ne (by omega)]
    · rw [f_2.2 c k]
  · rw [if_neg c_1] at h
    obtain ⟨j_4, -, -, h⟩ := ck_some h
    by_cases c_2 : σ_2 231 j_4 = 0
    · rw [if_pos c_2] at h
      obtain ⟨rfl, rfl, rfl⟩ := sm_inj h
      refine ⟨fun c k hn => ?_, fun c k => ?_⟩
      · rw [f_2.1 c k id, e_1, up2_ne (by omega)]
      · rw [f_2.2 c k]
    · rw [if_neg c_2] at h
      have f9 := fr_H_X12_again_30 N N σ_2 τ_2 x1 0 _ _ _ h
      refine ⟨fun c k hn => (f9.1 c k hn).trans ?_, fun c k => (f9.2 c k).trans ?_⟩
      · rw [f_2.1 c k id, e_1, up2_ne (by omega)]
      · rw [f_2.2 c k]
set_option maxHeartbeats 2000000 in
theorem fr_B_J3_checkIndex_8e157_0 (N : Nat) (σ : gI) (τ : gJ) (x0 : Int32) (x1 : Int32) {r : Int32} {σ1 : gI} {τ1 : gJ} (h : B_J3_checkIndex_8e157_0 N σ τ x0 x1 = some (r, σ1, τ1)) : (∀ c k : Nat, ¬ (False) → σ1 c k = σ c k) ∧ (∀ c k : Nat, τ1 c k = τ c k) := by
  unfold B_J3_checkIndex_8e157_0 at h
  by_cases c_1 : x0 < 0
  · rw [if_pos c_1] at h
    cases h
  · rw [if_neg c_1] at h
    by_cases c_2 : x0 < x1
    · rw [if_pos c_2] at h
      obtain ⟨rfl, rfl, rfl⟩ := sm_inj h
      refine ⟨fun c k hn => ?_, fun c k => ?_⟩
      · rfl
      · rfl
    · rw [if_neg c_2] at h
      cases h
set_option maxHeartbeats 2000000 in
theorem fr_B_J0_checkIndex_df160_0 (N : Nat) (σ : gI) (τ : gJ) (x0 : Int32) (x1 : Int32) {r : Unit} {σ1 : gI} {τ1 : gJ} (h : B_J0_checkIndex_df160_0 N σ τ x0 x1 = some (r, σ1, τ1)) : (∀ c k : Nat, ¬ (False) → σ1 c k = σ c k) ∧ (∀ c k : Nat, τ1 c k = τ c k) := by
  unfold B_J0_checkIndex_df160_0 at h
  obtain ⟨r_2, σ_2, τ_2, q_2, h⟩ := bd_some h
  have f_2 := fr_B_J3_checkIndex_8e157_0 N σ τ x0 x1 q_2
  obtain ⟨-, rfl, rfl⟩ := sm_inj h
  refine ⟨fun c k hn => ?_, fun c k => ?_⟩
  · rw [f_2.1 c k id]
  · rw [f_2.2 c k]
set_option maxHeartbeats 2000000 in
theorem fr_B_J1_charAt_3b067_0 (N : Nat) (bs : List Int32) (σ : gI) (τ : gJ) (x1 : Int32) {r : Int32} {σ1 : gI} {τ1 : gJ} (h : B_J1_charAt_3b067_0 N bs σ τ x1 = some (r, σ1, τ1)) : (∀ c k : Nat, ¬ (False) → σ1 c k = σ c k) ∧ (∀ c k : Nat, τ1 c k = τ c k) := by
  unfold B_J1_charAt_3b067_0 at h
  obtain ⟨r_1, σ_1, τ_1, q_1, h⟩ := bd_some h
  have f_1 := fr_B_J0_checkIndex_df160_0 N σ τ x1 (Int32.ofNat bs.length) q_1
  obtain ⟨j_2, -, -, h⟩ := ck_some h
  obtain ⟨-, h⟩ := cch_some h
  obtain ⟨rfl, rfl, rfl⟩ := sm_inj h
  refine ⟨fun c k hn => ?_, fun c k => ?_⟩
  · rw [f_1.1 c k id]
  · rw [f_1.2 c k]
set_option maxHeartbeats 2000000 in
theorem fr_B_J0_charAt_5068e_0 (N : Nat) (bs : List Int32) (σ : gI) (τ : gJ) (x1 : Int32) {r : Int32} {σ1 : gI} {τ1 : gJ} (h : B_J0_charAt_5068e_0 N bs σ τ x1 = some (r, σ1, τ1)) : (∀ c k : Nat, ¬ (False) → σ1 c k = σ c k) ∧ (∀ c k : Nat, τ1 c k = τ c k) := by
  unfold B_J0_charAt_5068e_0 at h
  obtain ⟨r_1, σ_1, τ_1, q_1, h⟩ := bd_some h
  have f_1 := fr_B_J0_isLatin1_aae02_0 N bs σ τ q_1
  by_cases c_1 : r_1 = 0
  · rw [if_pos c_1] at h
    cases h
  · rw [if_neg c_1] at h
    obtain ⟨r_3, σ_3, τ_3, q_3, h⟩ := bd_some h
    have f_3 := fr_B_J1_charAt_3b067_0 N bs σ_1 τ_1 x1 q_3
    obtain ⟨-, h⟩ := cch_some h
    obtain ⟨rfl, rfl, rfl⟩ := sm_inj h
    refine ⟨fun c k hn => ?_, fun c k => ?_⟩
    · rw [f_3.1 c k id, f_1.1 c k id]
    · rw [f_3.2 c k, f_1.2 c k]
set_option maxHeartbeats 2000000 in
theorem fr_C_X12_among_2 (N : Nat) (bs : List Int32) (rec_2 : gI → gJ → Int32 → Option (Int32 × gI × gJ)) (hrec_2 : ∀ (σ : gI) (τ : gJ) (x2 : Int32) (r : Int32) (σ1 : gI) (τ1 : gJ), rec_2 σ τ x2 = some (r, σ1, τ1) → (∀ c k : Nat, ¬ (False) → σ1 c k = σ c k) ∧ (∀ c k : Nat, τ1 c k = τ c k)) (σ : gI) (τ : gJ) (x2 : Int32) {r : Int32} {σ1 : gI} {τ1 : gJ} (h : C_X12_among_2 N bs rec_2 σ τ x2 = some (r, σ1, τ1)) : (∀ c k : Nat, ¬ (False) → σ1 c k = σ c k) ∧ (∀ c k : Nat, τ1 c k = τ c k) := by
  unfold C_X12_among_2 at h
  obtain ⟨r_1, σ_1, τ_1, q_1, h⟩ := bd_some h
  have f_1 := fr_B_J0_length_8abf5_0 N bs σ τ q_1
  by_cases c_1 : r_1 ≤ x2
  · rw [if_pos c_1] at h
    obtain ⟨rfl, rfl, rfl⟩ := sm_inj h
    refine ⟨fun c k hn => ?_, fun c k => ?_⟩
    · rw [f_1.1 c k id]
    · rw [f_1.2 c k]
  · rw [if_neg c_1] at h
    by_cases c_2 : σ_1 199 15 ≤ σ_1 199 14
    · rw [if_pos c_2] at h
      obtain ⟨rfl, rfl, rfl⟩ := sm_inj h
      refine ⟨fun c k hn => ?_, fun c k => ?_⟩
      · rw [f_1.1 c k id]
      · rw [f_1.2 c k]
    · rw [if_neg c_2] at h
      obtain ⟨r_4, σ_4, τ_4, q_4, h⟩ := bd_some h
      have f_4 := fr_B_J0_charAt_5068e_0 N bs σ_1 τ_1 x2 q_4
      obtain ⟨j_5, -, -, h⟩ := ck_some h
      by_cases c_3 : r_4 = σ_4 208 j_5
      · rw [if_pos c_3] at h
        obtain ⟨rfl, rfl, rfl⟩ := sm_inj h
        refine ⟨fun c k hn => ?_, fun c k => ?_⟩
        · rw [f_4.1 c k id, f_1.1 c k id]
        · rw [f_4.2 c k, f_1.2 c k]
      · rw [if_neg c_3] at h
        obtain ⟨v_7, e_7, h⟩ := nm_some h
        have f9 := hrec_2 σ_4 τ_4 v_7 _ _ _ h
        refine ⟨fun c k hn => (f9.1 c k hn).trans ?_, fun c k => (f9.2 c k).trans ?_⟩
        · rw [f_4.1 c k id, f_1.1 c k id]
        · rw [f_4.2 c k, f_1.2 c k]
theorem fr_H_X12_among_2 (N : Nat) (bs : List Int32) : ∀ (n : Nat) (σ : gI) (τ : gJ) (x2 : Int32) (r : Int32) (σ1 : gI) (τ1 : gJ), H_X12_among_2 N bs n σ τ x2 = some (r, σ1, τ1) → (∀ c k : Nat, ¬ (False) → σ1 c k = σ c k) ∧ (∀ c k : Nat, τ1 c k = τ c k) := by
  intro n
  induction n with
  | zero => intro σ τ x2 r σ1 τ1 h; cases h
  | succ n ih =>
    intro σ τ x2 r σ1 τ1 h
    exact fr_C_X12_among_2 N bs (H_X12_among_2 N bs n) ih σ τ x2 h
set_option maxHeartbeats 2000000 in
theorem fr_B_X12_among_0 (N : Nat) (bs : List Int32) (σ : gI) (τ : gJ) {r : Int32} {σ1 : gI} {τ1 : gJ} (h : B_X12_among_0 N bs σ τ = some (r, σ1, τ1)) : (∀ c k : Nat, ¬ (False) → σ1 c k = σ c k) ∧ (∀ c k : Nat, τ1 c k = τ c k) := by
  unfold B_X12_among_0 at h
  have f9 := fr_H_X12_among_2 N bs N σ τ 0 _ _ _ h
  refine ⟨fun c k hn => (f9.1 c k hn).trans ?_, fun c k => (f9.2 c k).trans ?_⟩
  · rfl
  · rfl
set_option maxHeartbeats 2000000 in
theorem fr_B_X12_has_0 (N : Nat) (σ : gI) (τ : gJ) (x0 : Int32) (x1 : Int32) {r : Int32} {σ1 : gI} {τ1 : gJ} (h : B_X12_has_0 N σ τ x0 x1 = some (r, σ1, τ1)) : (∀ c k : Nat, ¬ (False) → σ1 c k = σ c k) ∧ (∀ c k : Nat, τ1 c k = τ c k) := by
  unfold B_X12_has_0 at h
  by_cases c_1 : (x0 >>> (x1 &&& 31)) &&& 1 = 1
  · rw [if_pos c_1] at h
    obtain ⟨rfl, rfl, rfl⟩ := sm_inj h
    refine ⟨fun c k hn => ?_, fun c k => ?_⟩
    · rfl
    · rfl
  · rw [if_neg c_1] at h
    obtain ⟨rfl, rfl, rfl⟩ := sm_inj h
    refine ⟨fun c k hn => ?_, fun c k => ?_⟩
    · rfl
    · rfl
set_option maxHeartbeats 2000000 in
theorem fr_B_X12_waterIn_72 (N : Nat) (σ : gI) (τ : gJ) (x3 : Int32) (y0 : Int32) {r : Int32} {σ1 : gI} {τ1 : gJ} (h : B_X12_waterIn_72 N σ τ x3 y0 = some (r, σ1, τ1)) : (∀ c k : Nat, ¬ (False) → σ1 c k = σ c k) ∧ (∀ c k : Nat, τ1 c k = τ c k) := by
  unfold B_X12_waterIn_72 at h
  by_cases c_1 : y0 = 0
  · rw [if_pos c_1] at h
    obtain ⟨rfl, rfl, rfl⟩ := sm_inj h
    refine ⟨fun c k hn => ?_, fun c k => ?_⟩
    · rfl
    · rfl
  · rw [if_neg c_1] at h
    obtain ⟨rfl, rfl, rfl⟩ := sm_inj h
    refine ⟨fun c k hn => ?_, fun c k => ?_⟩
    · rfl
    · rfl
set_option maxHeartbeats 2000000 in
theorem fr_B_X12_waterIn_27 (N : Nat) (σ : gI) (τ : gJ) (x2 : Int32) (y0 : Int32) {r : Int32} {σ1 : gI} {τ1 : gJ} (h : B_X12_waterIn_27 N σ τ x2 y0 = some (r, σ1, τ1)) : (∀ c k : Nat, ¬ (False) → σ1 c k = σ c k) ∧ (∀ c k : Nat, τ1 c k = τ c k) := by
  unfold B_X12_waterIn_27 at h
  by_cases c_1 : x2 < σ 199 32
  · rw [if_pos c_1] at h
    have f9 := fr_B_X12_waterIn_72 N σ τ y0 0 h
    refine ⟨fun c k hn => (f9.1 c k hn).trans ?_, fun c k => (f9.2 c k).trans ?_⟩
    · rfl
    · rfl
  · rw [if_neg c_1] at h
    by_cases c_2 : 8 ≤ x2 - (σ 199 32)
    · rw [if_pos c_2] at h
      have f9 := fr_B_X12_waterIn_72 N σ τ y0 0 h
      refine ⟨fun c k hn => (f9.1 c k hn).trans ?_, fun c k => (f9.2 c k).trans ?_⟩
      · rfl
      · rfl
    · rw [if_neg c_2] at h
      obtain ⟨r_3, σ_3, τ_3, q_3, h⟩ := bd_some h
      have f_3 := fr_B_X12_has_0 N σ τ (σ 199 31) (imax 0 (x2 - (σ 199 32))) q_3
      by_cases c_3 : r_3 = 0
      · rw [if_pos c_3] at h
        have f9 := fr_B_X12_waterIn_72 N σ_3 τ_3 y0 0 h
        refine ⟨fun c k hn => (f9.1 c k hn).trans ?_, fun c k => (f9.2 c k).trans ?_⟩
        · rw [f_3.1 c k id]
        · rw [f_3.2 c k]
      · rw [if_neg c_3] at h
        have f9 := fr_B_X12_waterIn_72 N σ_3 τ_3 y0 1 h
        refine ⟨fun c k hn => (f9.1 c k hn).trans ?_, fun c k => (f9.2 c k).trans ?_⟩
        · rw [f_3.1 c k id]
        · rw [f_3.2 c k]
set_option maxHeartbeats 2000000 in
theorem fr_B_X12_waterIn_0 (N : Nat) (σ : gI) (τ : gJ) (x1 : Int32) {r : Int32} {σ1 : gI} {τ1 : gJ} (h : B_X12_waterIn_0 N σ τ x1 = some (r, σ1, τ1)) : (∀ c k : Nat, ¬ (False) → σ1 c k = σ c k) ∧ (∀ c k : Nat, τ1 c k = τ c k) := by
  unfold B_X12_waterIn_0 at h
  obtain ⟨v_1, e_1, h⟩ := nm_some h
  by_cases c_1 : σ 199 4 = 0
  · rw [if_pos c_1] at h
    have f9 := fr_B_X12_waterIn_27 N σ τ v_1 1 h
    refine ⟨fun c k hn => (f9.1 c k hn).trans ?_, fun c k => (f9.2 c k).trans ?_⟩
    · rfl
    · rfl
  · rw [if_neg c_1] at h
    obtain ⟨-, h⟩ := dz_some h
    obtain ⟨j_4, -, -, h⟩ := ck_some h
    have f9 := fr_B_X12_waterIn_27 N σ τ v_1 (σ 205 j_4) h
    refine ⟨fun c k hn => (f9.1 c k hn).trans ?_, fun c k => (f9.2 c k).trans ?_⟩
    · rfl
    · rfl
set_option maxHeartbeats 2000000 in
theorem fr_B_X12_flag_0 (N : Nat) (σ : gI) (τ : gJ) (x0 : Int32) {r : Int32} {σ1 : gI} {τ1 : gJ} (h : B_X12_flag_0 N σ τ x0 = some (r, σ1, τ1)) : (∀ c k : Nat, ¬ (False) → σ1 c k = σ c k) ∧ (∀ c k : Nat, τ1 c k = τ c k) := by
  unfold B_X12_flag_0 at h
  by_cases c_1 : x0 = 0
  · rw [if_pos c_1] at h
    obtain ⟨rfl, rfl, rfl⟩ := sm_inj h
    refine ⟨fun c k hn => ?_, fun c k => ?_⟩
    · rfl
    · rfl
  · rw [if_neg c_1] at h
    obtain ⟨rfl, rfl, rfl⟩ := sm_inj h
    refine ⟨fun c k hn => ?_, fun c k => ?_⟩
    · rfl
    · rfl
set_option maxHeartbeats 2000000 in
theorem fr_C_X12_othersAt_4 (N : Nat) (q : Nat) (rec_4 : gI → gJ → Int32 → Int32 → Int32 → Option (Int32 × gI × gJ)) (hrec_4 : ∀ (σ : gI) (τ : gJ) (x1 : Int32) (x2 : Int32) (x3 : Int32) (r : Int32) (σ1 : gI) (τ1 : gJ), rec_4 σ τ x1 x2 x3 = some (r, σ1, τ1) → (∀ c k : Nat, ¬ (False) → σ1 c k = σ c k) ∧ (∀ c k : Nat, τ1 c k = τ c k)) (σ : gI) (τ : gJ) (x1 : Int32) (x2 : Int32) (x3 : Int32) {r : Int32} {σ1 : gI} {τ1 : gJ} (h : C_X12_othersAt_4 N q rec_4 σ τ x1 x2 x3 = some (r, σ1, τ1)) : (∀ c k : Nat, ¬ (False) → σ1 c k = σ c k) ∧ (∀ c k : Nat, τ1 c k = τ c k) := by
  unfold C_X12_othersAt_4 at h
  by_cases c_1 : σ q 44 ≤ x3
  · rw [if_pos c_1] at h
    obtain ⟨rfl, rfl, rfl⟩ := sm_inj h
    refine ⟨fun c k hn => ?_, fun c k => ?_⟩
    · rfl
    · rfl
  · rw [if_neg c_1] at h
    by_cases c_2 : x3 = x1
    · rw [if_pos c_2] at h
      obtain ⟨r_3, σ_3, τ_3, q_3, h⟩ := bd_some h
      have f_3 := fr_B_X12_flag_0 N σ τ 0 q_3
      obtain ⟨v_4, e_4, h⟩ := nm_some h
      obtain ⟨v_5, e_5, h⟩ := nm_some h
      have f9 := hrec_4 σ_3 τ_3 x1 v_4 v_5 _ _ _ h
      refine ⟨fun c k hn => (f9.1 c k hn).trans ?_, fun c k => (f9.2 c k).trans ?_⟩
      · rw [f_3.1 c k id]
      · rw [f_3.2 c k]
    · rw [if_neg c_2] at h
      obtain ⟨j_6, -, -, h⟩ := ck_some h
      by_cases c_3 : σ q j_6 = 0
      · rw [if_pos c_3] at h
        obtain ⟨j_11, -, -, h⟩ := ck_some h
        obtain ⟨j_12, -, -, h⟩ := ck_some h
        by_cases c_4 : σ q j_11 = σ q j_12
        · rw [if_pos c_4] at h
          obtain ⟨r_17, σ_17, τ_17, q_17, h⟩ := bd_some h
          have f_17 := fr_B_X12_flag_0 N σ τ 1 q_17
          obtain ⟨v_18, e_18, h⟩ := nm_some h
          obtain ⟨v_19, e_19, h⟩ := nm_some h
          have f9 := hrec_4 σ_17 τ_17 x1 v_18 v_19 _ _ _ h
          refine ⟨fun c k hn => (f9.1 c k hn).trans ?_, fun c k => (f9.2 c k).trans ?_⟩
          · rw [f_17.1 c k id]
          · rw [f_17.2 c k]
        · rw [if_neg c_4] at h
          obtain ⟨r_14, σ_14, τ_14, q_14, h⟩ := bd_some h
          have f_14 := fr_B_X12_flag_0 N σ τ 0 q_14
          obtain ⟨v_15, e_15, h⟩ := nm_some h
          obtain ⟨v_16, e_16, h⟩ := nm_some h
          have f9 := hrec_4 σ_14 τ_14 x1 v_15 v_16 _ _ _ h
          refine ⟨fun c k hn => (f9.1 c k hn).trans ?_, fun c k => (f9.2 c k).trans ?_⟩
          · rw [f_14.1 c k id]
          · rw [f_14.2 c k]
      · rw [if_neg c_3] at h
        obtain ⟨r_8, σ_8, τ_8, q_8, h⟩ := bd_some h
        have f_8 := fr_B_X12_flag_0 N σ τ 0 q_8
        obtain ⟨v_9, e_9, h⟩ := nm_some h
        obtain ⟨v_10, e_10, h⟩ := nm_some h
        have f9 := hrec_4 σ_8 τ_8 x1 v_9 v_10 _ _ _ h
        refine ⟨fun c k hn => (f9.1 c k hn).trans ?_, fun c k => (f9.2 c k).trans ?_⟩
        · rw [f_8.1 c k id]
        · rw [f_8.2 c k]
theorem fr_H_X12_othersAt_4 (N : Nat) (q : Nat) : ∀ (n : Nat) (σ : gI) (τ : gJ) (x1 : Int32) (x2 : Int32) (x3 : Int32) (r : Int32) (σ1 : gI) (τ1 : gJ), H_X12_othersAt_4 N q n σ τ x1 x2 x3 = some (r, σ1, τ1) → (∀ c k : Nat, ¬ (False) → σ1 c k = σ c k) ∧ (∀ c k : Nat, τ1 c k = τ c k) := by
  intro n
  induction n with
  | zero => intro σ τ x1 x2 x3 r σ1 τ1 h; cases h
  | succ n ih =>
    intro σ τ x1 x2 x3 r σ1 τ1 h
    exact fr_C_X12_othersAt_4 N q (H_X12_othersAt_4 N q n) ih σ τ x1 x2 x3 h
set_option maxHeartbeats 2000000 in
theorem fr_B_X12_othersAt_0 (N : Nat) (q : Nat) (σ : gI) (τ : gJ) (x1 : Int32) {r : Int32} {σ1 : gI} {τ1 : gJ} (h : B_X12_othersAt_0 N q σ τ x1 = some (r, σ1, τ1)) : (∀ c k : Nat, ¬ (False) → σ1 c k = σ c k) ∧ (∀ c k : Nat, τ1 c k = τ c k) := by
  unfold B_X12_othersAt_0 at h
  have f9 := fr_H_X12_othersAt_4 N q N σ τ x1 0 0 _ _ _ h
  refine ⟨fun c k hn => (f9.1 c k hn).trans ?_, fun c k => (f9.2 c k).trans ?_⟩
  · rfl
  · rfl
set_option maxHeartbeats 2000000 in
theorem fr_B_X12_askedOf_0 (N : Nat) (q : Nat) (σ : gI) (τ : gJ) (x2 : Int32) (x3 : Int32) {r : Int32} {σ1 : gI} {τ1 : gJ} (h : B_X12_askedOf_0 N q σ τ x2 x3 = some (r, σ1, τ1)) : (∀ c k : Nat, ¬ (False) → σ1 c k = σ c k) ∧ (∀ c k : Nat, τ1 c k = τ c k) := by
  unfold B_X12_askedOf_0 at h
  obtain ⟨v_1, e_1, h⟩ := nm_some h
  by_cases c_1 : x3 = 0
  · rw [if_pos c_1] at h
    obtain ⟨j_3, -, -, h⟩ := ck_some h
    obtain ⟨rfl, rfl, rfl⟩ := sm_inj h
    refine ⟨fun c k hn => ?_, fun c k => ?_⟩
    · rfl
    · rfl
  · rw [if_neg c_1] at h
    by_cases c_2 : x3 = 1
    · rw [if_pos c_2] at h
      obtain ⟨rfl, rfl, rfl⟩ := sm_inj h
      refine ⟨fun c k hn => ?_, fun c k => ?_⟩
      · rfl
      · rfl
    · rw [if_neg c_2] at h
      by_cases c_3 : x3 = 2
      · rw [if_pos c_3] at h
        obtain ⟨r_6, σ_6, τ_6, q_6, h⟩ := bd_some h
        have f_6 := fr_B_X12_waterIn_0 N σ τ (σ q 43) q_6
        obtain ⟨rfl, rfl, rfl⟩ := sm_inj h
        refine ⟨fun c k hn => ?_, fun c k => ?_⟩
        · rw [f_6.1 c k id]
        · rw [f_6.2 c k]
      · rw [if_neg c_3] at h
        by_cases c_4 : x3 = 3
        · rw [if_pos c_4] at h
          obtain ⟨rfl, rfl, rfl⟩ := sm_inj h
          refine ⟨fun c k hn => ?_, fun c k => ?_⟩
          · rfl
          · rfl
        · rw [if_neg c_4] at h
          by_cases c_5 : x3 = 4
          · rw [if_pos c_5] at h
            obtain ⟨j_9, -, -, h⟩ := ck_some h
            obtain ⟨rfl, rfl, rfl⟩ := sm_inj h
            refine ⟨fun c k hn => ?_, fun c k => ?_⟩
            · rfl
            · rfl
          · rw [if_neg c_5] at h
            by_cases c_6 : x3 = 5
            · rw [if_pos c_6] at h
              obtain ⟨j_11, -, -, h⟩ := ck_some h
              obtain ⟨rfl, rfl, rfl⟩ := sm_inj h
              refine ⟨fun c k hn => ?_, fun c k => ?_⟩
              · rfl
              · rfl
            · rw [if_neg c_6] at h
              by_cases c_7 : x3 = 6
              · rw [if_pos c_7] at h
                obtain ⟨r_13, σ_13, τ_13, q_13, h⟩ := bd_some h
                have f_13 := fr_B_X12_othersAt_0 N q σ τ x2 q_13
                obtain ⟨rfl, rfl, rfl⟩ := sm_inj h
                refine ⟨fun c k hn => ?_, fun c k => ?_⟩
                · rw [f_13.1 c k id]
                · rw [f_13.2 c k]
              · rw [if_neg c_7] at h
                obtain ⟨j_14, -, -, h⟩ := ck_some h
                obtain ⟨rfl, rfl, rfl⟩ := sm_inj h
                refine ⟨fun c k hn => ?_, fun c k => ?_⟩
                · rfl
                · rfl
set_option maxHeartbeats 2000000 in
theorem fr_B_X12_isPlace_0 (N : Nat) (σ : gI) (τ : gJ) (x1 : Int32) {r : Int32} {σ1 : gI} {τ1 : gJ} (h : B_X12_isPlace_0 N σ τ x1 = some (r, σ1, τ1)) : (∀ c k : Nat, ¬ (False) → σ1 c k = σ c k) ∧ (∀ c k : Nat, τ1 c k = τ c k) := by
  unfold B_X12_isPlace_0 at h
  obtain ⟨r_1, σ_1, τ_1, q_1, h⟩ := bd_some h
  have f_1 := fr_B_X12_in_0 N σ τ x1.toInt64 0 (((σ 199 3) - 1).toInt64) q_1
  obtain ⟨-, h⟩ := cb_some h
  obtain ⟨rfl, rfl, rfl⟩ := sm_inj h
  refine ⟨fun c k hn => ?_, fun c k => ?_⟩
  · rw [f_1.1 c k id]
  · rw [f_1.2 c k]
set_option maxHeartbeats 2000000 in
theorem fr_B_X12_canPut_0 (N : Nat) (σ : gI) (τ : gJ) (x1 : Int32) (x2 : Int32) (x3 : Int32) {r : Int32} {σ1 : gI} {τ1 : gJ} (h : B_X12_canPut_0 N σ τ x1 x2 x3 = some (r, σ1, τ1)) : (∀ c k : Nat, ¬ (False) → σ1 c k = σ c k) ∧ (∀ c k : Nat, τ1 c k = τ c k) := by
  unfold B_X12_canPut_0 at h
  obtain ⟨r_1, σ_1, τ_1, q_1, h⟩ := bd_some h
  have f_1 := fr_B_X12_isPlace_0 N σ τ x1 q_1
  by_cases c_1 : r_1 = 0
  · rw [if_pos c_1] at h
    obtain ⟨rfl, rfl, rfl⟩ := sm_inj h
    refine ⟨fun c k hn => ?_, fun c k => ?_⟩
    · rw [f_1.1 c k id]
    · rw [f_1.2 c k]
  · rw [if_neg c_1] at h
    obtain ⟨r_3, σ_3, τ_3, q_3, h⟩ := bd_some h
    have f_3 := fr_B_X12_in_0 N σ_1 τ_1 x2.toInt64 0 99 q_3
    by_cases c_2 : r_3 = 0
    · rw [if_pos c_2] at h
      obtain ⟨rfl, rfl, rfl⟩ := sm_inj h
      refine ⟨fun c k hn => ?_, fun c k => ?_⟩
      · rw [f_3.1 c k id, f_1.1 c k id]
      · rw [f_3.2 c k, f_1.2 c k]
    · rw [if_neg c_2] at h
      obtain ⟨r_5, σ_5, τ_5, q_5, h⟩ := bd_some h
      have f_5 := fr_B_X12_in_0 N σ_3 τ_3 x3.toInt64 0 9 q_5
      by_cases c_3 : r_5 = 0
      · rw [if_pos c_3] at h
        obtain ⟨rfl, rfl, rfl⟩ := sm_inj h
        refine ⟨fun c k hn => ?_, fun c k => ?_⟩
        · rw [f_5.1 c k id, f_3.1 c k id, f_1.1 c k id]
        · rw [f_5.2 c k, f_3.2 c k, f_1.2 c k]
      · rw [if_neg c_3] at h
        obtain ⟨rfl, rfl, rfl⟩ := sm_inj h
        refine ⟨fun c k hn => ?_, fun c k => ?_⟩
        · rw [f_5.1 c k id, f_3.1 c k id, f_1.1 c k id]
        · rw [f_5.2 c k, f_3.2 c k, f_1.2 c k]
set_option maxHeartbeats 2000000 in
theorem fr_B_X12_isKitchen_0 (N : Nat) (σ : gI) (τ : gJ) (x1 : Int32) {r : Int32} {σ1 : gI} {τ1 : gJ} (h : B_X12_isKitchen_0 N σ τ x1 = some (r, σ1, τ1)) : (∀ c k : Nat, ¬ (False) → σ1 c k = σ c k) ∧ (∀ c k : Nat, τ1 c k = τ c k) := by
  unfold B_X12_isKitchen_0 at h
  obtain ⟨r_1, σ_1, τ_1, q_1, h⟩ := bd_some h
  have f_1 := fr_B_X12_isPlace_0 N σ τ x1 q_1
  by_cases c_1 : r_1 = 0
  · rw [if_pos c_1] at h
    obtain ⟨rfl, rfl, rfl⟩ := sm_inj h
    refine ⟨fun c k hn => ?_, fun c k => ?_⟩
    · rw [f_1.1 c k id]
    · rw [f_1.2 c k]
  · rw [if_neg c_1] at h
    obtain ⟨j_3, -, -, h⟩ := ck_some h
    by_cases c_2 : σ_1 201 j_3 = 6
    · rw [if_pos c_2] at h
      obtain ⟨rfl, rfl, rfl⟩ := sm_inj h
      refine ⟨fun c k hn => ?_, fun c k => ?_⟩
      · rw [f_1.1 c k id]
      · rw [f_1.2 c k]
    · rw [if_neg c_2] at h
      obtain ⟨rfl, rfl, rfl⟩ := sm_inj h
      refine ⟨fun c k hn => ?_, fun c k => ?_⟩
      · rw [f_1.1 c k id]
      · rw [f_1.2 c k]
set_option maxHeartbeats 2000000 in
theorem fr_B_X12_canSail_0 (N : Nat) (σ : gI) (τ : gJ) (x1 : Int32) (x2 : Int32) (x3 : Int32) (x4 : Int32) {r : Int32} {σ1 : gI} {τ1 : gJ} (h : B_X12_canSail_0 N σ τ x1 x2 x3 x4 = some (r, σ1, τ1)) : (∀ c k : Nat, ¬ (False) → σ1 c k = σ c k) ∧ (∀ c k : Nat, τ1 c k = τ c k) := by
  unfold B_X12_canSail_0 at h
  obtain ⟨r_1, σ_1, τ_1, q_1, h⟩ := bd_some h
  have f_1 := fr_B_X12_canPut_0 N σ τ x1 x2 x3 q_1
  by_cases c_1 : r_1 = 0
  · rw [if_pos c_1] at h
    obtain ⟨rfl, rfl, rfl⟩ := sm_inj h
    refine ⟨fun c k hn => ?_, fun c k => ?_⟩
    · rw [f_1.1 c k id]
    · rw [f_1.2 c k]
  · rw [if_neg c_1] at h
    obtain ⟨r_3, σ_3, τ_3, q_3, h⟩ := bd_some h
    have f_3 := fr_B_X12_isKitchen_0 N σ_1 τ_1 x4 q_3
    by_cases c_2 : r_3 = 0
    · rw [if_pos c_2] at h
      obtain ⟨rfl, rfl, rfl⟩ := sm_inj h
      refine ⟨fun c k hn => ?_, fun c k => ?_⟩
      · rw [f_3.1 c k id, f_1.1 c k id]
      · rw [f_3.2 c k, f_1.2 c k]
    · rw [if_neg c_2] at h
      obtain ⟨rfl, rfl, rfl⟩ := sm_inj h
      refine ⟨fun c k hn => ?_, fun c k => ?_⟩
      · rw [f_3.1 c k id, f_1.1 c k id]
      · rw [f_3.2 c k, f_1.2 c k]
set_option maxHeartbeats 2000000 in
theorem fr_B_X12_thinksNow_0 (N : Nat) (σ : gI) (τ : gJ) {r : Unit} {σ1 : gI} {τ1 : gJ} (h : B_X12_thinksNow_0 N σ τ = some (r, σ1, τ1)) : (∀ c k : Nat, ¬ ((c = 199 ∧ (k = 45 ∨ k = 46))) → σ1 c k = σ c k) ∧ (∀ c k : Nat, τ1 c k = τ c k) := by
  unfold B_X12_thinksNow_0 at h
  obtain ⟨σ_1, e_1, h⟩ := nm_some h
  obtain ⟨σ_2, e_2, h⟩ := nm_some h
  obtain ⟨-, rfl, rfl⟩ := sm_inj h
  refine ⟨fun c k hn => ?_, fun c k => ?_⟩
  · rw [e_2, up2_ne (by omega), e_1, up2_ne (by omega)]
  · rfl
set_option maxHeartbeats 2000000 in
theorem fr_B_X12_lays_59 (N : Nat) (q : Nat) (σ : gI) (τ : gJ) (x3 : Int32) (x6 : Int32) (x7 : Int32) (y0 : Int32) (y1 : Int32) {r : Unit} {σ1 : gI} {τ1 : gJ} (h : B_X12_lays_59 N q σ τ x3 x6 x7 y0 y1 = some (r, σ1, τ1)) : (∀ c k : Nat, ¬ (c = q) → σ1 c k = σ c k) ∧ (∀ c k : Nat, τ1 c k = τ c k) := by
  unfold B_X12_lays_59 at h
  obtain ⟨j_1, -, -, h⟩ := ck_some h
  obtain ⟨σ_2, e_2, h⟩ := nm_some h
  obtain ⟨j_3, -, -, h⟩ := ck_some h
  obtain ⟨σ_4, e_4, h⟩ := nm_some h
  obtain ⟨j_5, -, -, h⟩ := ck_some h
  by_cases c_1 : σ_4 201 j_5 = 6
  · rw [if_pos c_1] at h
    obtain ⟨j_9, -, -, h⟩ := ck_some h
    obtain ⟨σ_10, e_10, h⟩ := nm_some h
    obtain ⟨-, rfl, rfl⟩ := sm_inj h
    refine ⟨fun c k hn => ?_, fun c k => ?_⟩
    · rw [e_10, up2_ne (by omega), e_4, up2_ne (by omega), e_2, up2_ne (by omega)]
    · rfl
  · rw [if_neg c_1] at h
    obtain ⟨j_7, -, -, h⟩ := ck_some h
    obtain ⟨σ_8, e_8, h⟩ := nm_some h
    obtain ⟨-, rfl, rfl⟩ := sm_inj h
    refine ⟨fun c k hn => ?_, fun c k => ?_⟩
    · rw [e_8, up2_ne (by omega), e_4, up2_ne (by omega), e_2, up2_ne (by omega)]
    · rfl
set_option maxHeartbeats 2000000 in
theorem fr_B_X12_lays_0 (N : Nat) (q : Nat) (σ : gI) (τ : gJ) (x2 : Int32) (x3 : Int32) (x4 : Int32) (x5 : Int32) (x6 : Int32) {r : Unit} {σ1 : gI} {τ1 : gJ} (h : B_X12_lays_0 N q σ τ x2 x3 x4 x5 x6 = some (r, σ1, τ1)) : (∀ c k : Nat, ¬ (c = q) → σ1 c k = σ c k) ∧ (∀ c k : Nat, τ1 c k = τ c k) := by
  unfold B_X12_lays_0 at h
  obtain ⟨v_1, e_1, h⟩ := nm_some h
  obtain ⟨j_2, -, -, h⟩ := ck_some h
  obtain ⟨σ_3, e_3, h⟩ := nm_some h
  obtain ⟨j_4, -, -, h⟩ := ck_some h
  obtain ⟨σ_5, e_5, h⟩ := nm_some h
  obtain ⟨j_6, -, -, h⟩ := ck_some h
  obtain ⟨σ_7, e_7, h⟩ := nm_some h
  obtain ⟨j_8, -, -, h⟩ := ck_some h
  obtain ⟨σ_9, e_9, h⟩ := nm_some h
  obtain ⟨j_10, -, -, h⟩ := ck_some h
  by_cases c_1 : σ_9 201 j_10 = 6
  · rw [if_pos c_1] at h
    have f9 := fr_B_X12_lays_59 N q σ_9 τ x3 x6 v_1 1 (v_1 + 4) h
    refine ⟨fun c k hn => (f9.1 c k hn).trans ?_, fun c k => (f9.2 c k).trans ?_⟩
    · rw [e_9, up2_ne (by omega), e_7, up2_ne (by omega), e_5, up2_ne (by omega), e_3, up2_ne (by omega)]
    · rfl
  · rw [if_neg c_1] at h
    have f9 := fr_B_X12_lays_59 N q σ_9 τ x3 x6 v_1 0 (v_1 + 4) h
    refine ⟨fun c k hn => (f9.1 c k hn).trans ?_, fun c k => (f9.2 c k).trans ?_⟩
    · rw [e_9, up2_ne (by omega), e_7, up2_ne (by omega), e_5, up2_ne (by omega), e_3, up2_ne (by omega)]
    · rfl
set_option maxHeartbeats 2000000 in
theorem fr_C_X12_laysAlone_3 (N : Nat) (rec_3 : gI → gJ → Int32 → Int32 → Int32 → Int32 → Int32 → Option (Unit × gI × gJ)) (hrec_3 : ∀ (σ : gI) (τ : gJ) (x1 : Int32) (x2 : Int32) (x3 : Int32) (x4 : Int32) (x5 : Int32) (r : Unit) (σ1 : gI) (τ1 : gJ), rec_3 σ τ x1 x2 x3 x4 x5 = some (r, σ1, τ1) → (∀ c k : Nat, ¬ (c = 224) → σ1 c k = σ c k) ∧ (∀ c k : Nat, τ1 c k = τ c k)) (σ : gI) (τ : gJ) (x1 : Int32) (x2 : Int32) (x3 : Int32) (x4 : Int32) (x5 : Int32) {r : Unit} {σ1 : gI} {τ1 : gJ} (h : C_X12_laysAlone_3 N rec_3 σ τ x1 x2 x3 x4 x5 = some (r, σ1, τ1)) : (∀ c k : Nat, ¬ (c = 224) → σ1 c k = σ c k) ∧ (∀ c k : Nat, τ1 c k = τ c k) := by
  unfold C_X12_laysAlone_3 at h
  by_cases c_1 : 45 ≤ x5
  · rw [if_pos c_1] at h
    obtain ⟨σ_2, e_2, h⟩ := nm_some h
    obtain ⟨σ_3, e_3, h⟩ := nm_some h
    obtain ⟨σ_4, e_4, h⟩ := nm_some h
    obtain ⟨r_5, σ_5, τ_5, q_5, h⟩ := bd_some h
    have f_5 := fr_B_X12_lays_0 N 224 σ_4 τ 0 x1 x2 x3 x4 q_5
    obtain ⟨-, rfl, rfl⟩ := sm_inj h
    refine ⟨fun c k hn => ?_, fun c k => ?_⟩
    · rw [f_5.1 c k (by omega), e_4, up2_ne (by omega), e_3, up2_ne (by omega), e_2, up2_ne (by omega)]
    · rw [f_5.2 c k]
  · rw [if_neg c_1] at h
    obtain ⟨j_6, -, -, h⟩ := ck_some h
    obtain ⟨σ_7, e_7, h⟩ := nm_some h
    obtain ⟨v_8, e_8, h⟩ := nm_some h
    have f9 := hrec_3 σ_7 τ x1 x2 x3 x4 v_8 _ _ _ h
    refine ⟨fun c k hn => (f9.1 c k hn).trans ?_, fun c k => (f9.2 c k).trans ?_⟩
    · rw [e_7, up2_ne (by omega)]
    · rfl
theorem fr_H_X12_laysAlone_3 (N : Nat) : ∀ (n : Nat) (σ : gI) (τ : gJ) (x1 : Int32) (x2 : Int32) (x3 : Int32) (x4 : Int32) (x5 : Int32) (r : Unit) (σ1 : gI) (τ1 : gJ), H_X12_laysAlone_3 N n σ τ x1 x2 x3 x4 x5 = some (r, σ1, τ1) → (∀ c k : Nat, ¬ (c = 224) → σ1 c k = σ c k) ∧ (∀ c k : Nat, τ1 c k = τ c k) := by
  intro n
  induction n with
  | zero => intro σ τ x1 x2 x3 x4 x5 r σ1 τ1 h; cases h
  | succ n ih =>
    intro σ τ x1 x2 x3 x4 x5 r σ1 τ1 h
    exact fr_C_X12_laysAlone_3 N (H_X12_laysAlone_3 N n) ih σ τ x1 x2 x3 x4 x5 h
set_option maxHeartbeats 2000000 in
theorem fr_B_X12_laysAlone_0 (N : Nat) (σ : gI) (τ : gJ) (x1 : Int32) (x2 : Int32) (x3 : Int32) (x4 : Int32) {r : Unit} {σ1 : gI} {τ1 : gJ} (h : B_X12_laysAlone_0 N σ τ x1 x2 x3 x4 = some (r, σ1, τ1)) : (∀ c k : Nat, ¬ (c = 224) → σ1 c k = σ c k) ∧ (∀ c k : Nat, τ1 c k = τ c k) := by
  unfold B_X12_laysAlone_0 at h
  have f9 := fr_H_X12_laysAlone_3 N N σ τ x1 x2 x3 x4 0 _ _ _ h
  refine ⟨fun c k hn => (f9.1 c k hn).trans ?_, fun c k => (f9.2 c k).trans ?_⟩
  · rfl
  · rfl
set_option maxHeartbeats 2000000 in
theorem fr_B_X12_ends_0 (N : Nat) (q : Nat) (σ : gI) (τ : gJ) (x2 : Int32) (x3 : Int32) {r : Unit} {σ1 : gI} {τ1 : gJ} (h : B_X12_ends_0 N q σ τ x2 x3 = some (r, σ1, τ1)) : (∀ c k : Nat, ¬ (c = q) → σ1 c k = σ c k) ∧ (∀ c k : Nat, τ1 c k = τ c k) := by
  unfold B_X12_ends_0 at h
  obtain ⟨j_1, -, -, h⟩ := ck_some h
  obtain ⟨σ_2, e_2, h⟩ := nm_some h
  obtain ⟨j_3, -, -, h⟩ := ck_some h
  obtain ⟨σ_4, e_4, h⟩ := nm_some h
  obtain ⟨-, rfl, rfl⟩ := sm_inj h
  refine ⟨fun c k hn => ?_, fun c k => ?_⟩
  · rw [e_4, up2_ne (by omega), e_2, up2_ne (by omega)]
  · rfl
set_option maxHeartbeats 2000000 in
theorem fr_B_X12_worked_0 (N : Nat) (σ : gI) (τ : gJ) (x0 : Int32) (x1 : Int32) (x2 : Int32) {r : Int32} {σ1 : gI} {τ1 : gJ} (h : B_X12_worked_0 N σ τ x0 x1 x2 = some (r, σ1, τ1)) : (∀ c k : Nat, ¬ (False) → σ1 c k = σ c k) ∧ (∀ c k : Nat, τ1 c k = τ c k) := by
  unfold B_X12_worked_0 at h
  by_cases c_1 : x0 = 0
  · rw [if_pos c_1] at h
    by_cases c_2 : x2 ≤ x1
    · rw [if_pos c_2] at h
      obtain ⟨r_3, σ_3, τ_3, q_3, h⟩ := bd_some h
      have f_3 := fr_B_X12_flag_0 N σ τ 0 q_3
      obtain ⟨rfl, rfl, rfl⟩ := sm_inj h
      refine ⟨fun c k hn => ?_, fun c k => ?_⟩
      · rw [f_3.1 c k id]
      · rw [f_3.2 c k]
    · rw [if_neg c_2] at h
      obtain ⟨r_4, σ_4, τ_4, q_4, h⟩ := bd_some h
      have f_4 := fr_B_X12_flag_0 N σ τ 1 q_4
      obtain ⟨rfl, rfl, rfl⟩ := sm_inj h
      refine ⟨fun c k hn => ?_, fun c k => ?_⟩
      · rw [f_4.1 c k id]
      · rw [f_4.2 c k]
  · rw [if_neg c_1] at h
    by_cases c_3 : x0 = 1
    · rw [if_pos c_3] at h
      by_cases c_4 : x1 ≤ x2
      · rw [if_pos c_4] at h
        obtain ⟨r_7, σ_7, τ_7, q_7, h⟩ := bd_some h
        have f_7 := fr_B_X12_flag_0 N σ τ 0 q_7
        obtain ⟨rfl, rfl, rfl⟩ := sm_inj h
        refine ⟨fun c k hn => ?_, fun c k => ?_⟩
        · rw [f_7.1 c k id]
        · rw [f_7.2 c k]
      · rw [if_neg c_4] at h
        obtain ⟨r_8, σ_8, τ_8, q_8, h⟩ := bd_some h
        have f_8 := fr_B_X12_flag_0 N σ τ 1 q_8
        obtain ⟨rfl, rfl, rfl⟩ := sm_inj h
        refine ⟨fun c k hn => ?_, fun c k => ?_⟩
        · rw [f_8.1 c k id]
        · rw [f_8.2 c k]
    · rw [if_neg c_3] at h
      by_cases c_5 : x0 = 2
      · rw [if_pos c_5] at h
        by_cases c_6 : x1 = x2
        · rw [if_pos c_6] at h
          obtain ⟨r_12, σ_12, τ_12, q_12, h⟩ := bd_some h
          have f_12 := fr_B_X12_flag_0 N σ τ 1 q_12
          obtain ⟨rfl, rfl, rfl⟩ := sm_inj h
          refine ⟨fun c k hn => ?_, fun c k => ?_⟩
          · rw [f_12.1 c k id]
          · rw [f_12.2 c k]
        · rw [if_neg c_6] at h
          obtain ⟨r_11, σ_11, τ_11, q_11, h⟩ := bd_some h
          have f_11 := fr_B_X12_flag_0 N σ τ 0 q_11
          obtain ⟨rfl, rfl, rfl⟩ := sm_inj h
          refine ⟨fun c k hn => ?_, fun c k => ?_⟩
          · rw [f_11.1 c k id]
          · rw [f_11.2 c k]
      · rw [if_neg c_5] at h
        by_cases c_7 : x0 = 3
        · rw [if_pos c_7] at h
          obtain ⟨rfl, rfl, rfl⟩ := sm_inj h
          refine ⟨fun c k hn => ?_, fun c k => ?_⟩
          · rfl
          · rfl
        · rw [if_neg c_7] at h
          by_cases c_8 : x0 = 4
          · rw [if_pos c_8] at h
            obtain ⟨rfl, rfl, rfl⟩ := sm_inj h
            refine ⟨fun c k hn => ?_, fun c k => ?_⟩
            · rfl
            · rfl
          · rw [if_neg c_8] at h
            by_cases c_9 : x0 = 5
            · rw [if_pos c_9] at h
              obtain ⟨rfl, rfl, rfl⟩ := sm_inj h
              refine ⟨fun c k hn => ?_, fun c k => ?_⟩
              · rfl
              · rfl
            · rw [if_neg c_9] at h
              by_cases c_10 : x2 = 0
              · rw [if_pos c_10] at h
                obtain ⟨rfl, rfl, rfl⟩ := sm_inj h
                refine ⟨fun c k hn => ?_, fun c k => ?_⟩
                · rfl
                · rfl
              · rw [if_neg c_10] at h
                obtain ⟨-, h⟩ := dz_some h
                obtain ⟨rfl, rfl, rfl⟩ := sm_inj h
                refine ⟨fun c k hn => ?_, fun c k => ?_⟩
                · rfl
                · rfl
set_option maxHeartbeats 2000000 in
theorem fr_C_X12_ruled_28 (N : Nat) (q : Nat) (rec_28 : gI → gJ → Int32 → Int32 → Int32 → Option (Int32 × gI × gJ)) (hrec_28 : ∀ (σ : gI) (τ : gJ) (x2 : Int32) (x3 : Int32) (x4 : Int32) (r : Int32) (σ1 : gI) (τ1 : gJ), rec_28 σ τ x2 x3 x4 = some (r, σ1, τ1) → (∀ c k : Nat, ¬ (c = 218) → σ1 c k = σ c k) ∧ (∀ c k : Nat, τ1 c k = τ c k)) (σ : gI) (τ : gJ) (x2 : Int32) (x3 : Int32) (x4 : Int32) {r : Int32} {σ1 : gI} {τ1 : gJ} (h : C_X12_ruled_28 N q rec_28 σ τ x2 x3 x4 = some (r, σ1, τ1)) : (∀ c k : Nat, ¬ (c = 218) → σ1 c k = σ c k) ∧ (∀ c k : Nat, τ1 c k = τ c k) := by
  unfold C_X12_ruled_28 at h
  by_cases c_1 : σ 199 28 ≤ x4
  · rw [if_pos c_1] at h
    obtain ⟨rfl, rfl, rfl⟩ := sm_inj h
    refine ⟨fun c k hn => ?_, fun c k => ?_⟩
    · rfl
    · rfl
  · rw [if_neg c_1] at h
    obtain ⟨j_2, -, -, h⟩ := ck_some h
    obtain ⟨v_3, e_3, h⟩ := nm_some h
    by_cases c_2 : v_3 = 3000
    · rw [if_pos c_2] at h
      obtain ⟨j_22, -, -, h⟩ := ck_some h
      obtain ⟨σ_23, e_23, h⟩ := nm_some h
      obtain ⟨v_24, e_24, h⟩ := nm_some h
      have f9 := hrec_28 σ_23 τ x2 x3 v_24 _ _ _ h
      refine ⟨fun c k hn => (f9.1 c k hn).trans ?_, fun c k => (f9.2 c k).trans ?_⟩
      · rw [e_23, up2_ne (by omega)]
      · rfl
    · rw [if_neg c_2] at h
      by_cases c_3 : v_3 < 2000
      · rw [if_pos c_3] at h
        by_cases c_4 : v_3 < 1000
        · rw [if_pos c_4] at h
          obtain ⟨j_7, -, -, h⟩ := ck_some h
          obtain ⟨σ_8, e_8, h⟩ := nm_some h
          obtain ⟨v_9, e_9, h⟩ := nm_some h
          obtain ⟨v_10, e_10, h⟩ := nm_some h
          have f9 := hrec_28 σ_8 τ x2 v_9 v_10 _ _ _ h
          refine ⟨fun c k hn => (f9.1 c k hn).trans ?_, fun c k => (f9.2 c k).trans ?_⟩
          · rw [e_8, up2_ne (by omega)]
          · rfl
        · rw [if_neg c_4] at h
          obtain ⟨r_11, σ_11, τ_11, q_11, h⟩ := bd_some h
          have f_11 := fr_B_X12_askedOf_0 N q σ τ x2 (v_3 - 1000) q_11
          obtain ⟨j_12, -, -, h⟩ := ck_some h
          obtain ⟨σ_13, e_13, h⟩ := nm_some h
          obtain ⟨v_14, e_14, h⟩ := nm_some h
          obtain ⟨v_15, e_15, h⟩ := nm_some h
          have f9 := hrec_28 σ_13 τ_11 x2 v_14 v_15 _ _ _ h
          refine ⟨fun c k hn => (f9.1 c k hn).trans ?_, fun c k => (f9.2 c k).trans ?_⟩
          · rw [e_13, up2_ne (by omega), f_11.1 c k id]
          · rw [f_11.2 c k]
      · rw [if_neg c_3] at h
        obtain ⟨v_16, e_16, h⟩ := nm_some h
        obtain ⟨j_17, -, -, h⟩ := ck_some h
        obtain ⟨j_18, -, -, h⟩ := ck_some h
        obtain ⟨r_19, σ_19, τ_19, q_19, h⟩ := bd_some h
        have f_19 := fr_B_X12_worked_0 N σ τ (v_3 - 2000) (σ 218 j_17) (σ 218 j_18) q_19
        obtain ⟨σ_20, e_20, h⟩ := nm_some h
        obtain ⟨v_21, e_21, h⟩ := nm_some h
        have f9 := hrec_28 σ_20 τ_19 x2 v_16 v_21 _ _ _ h
        refine ⟨fun c k hn => (f9.1 c k hn).trans ?_, fun c k => (f9.2 c k).trans ?_⟩
        · rw [e_20, up2_ne (by omega), f_19.1 c k id]
        · rw [f_19.2 c k]
theorem fr_H_X12_ruled_28 (N : Nat) (q : Nat) : ∀ (n : Nat) (σ : gI) (τ : gJ) (x2 : Int32) (x3 : Int32) (x4 : Int32) (r : Int32) (σ1 : gI) (τ1 : gJ), H_X12_ruled_28 N q n σ τ x2 x3 x4 = some (r, σ1, τ1) → (∀ c k : Nat, ¬ (c = 218) → σ1 c k = σ c k) ∧ (∀ c k : Nat, τ1 c k = τ c k) := by
  intro n
  induction n with
  | zero => intro σ τ x2 x3 x4 r σ1 τ1 h; cases h
  | succ n ih =>
    intro σ τ x2 x3 x4 r σ1 τ1 h
    exact fr_C_X12_ruled_28 N q (H_X12_ruled_28 N q n) ih σ τ x2 x3 x4 h
set_option maxHeartbeats 2000000 in
theorem fr_B_X12_ruled_0 (N : Nat) (q : Nat) (σ : gI) (τ : gJ) (x2 : Int32) {r : Int32} {σ1 : gI} {τ1 : gJ} (h : B_X12_ruled_0 N q σ τ x2 = some (r, σ1, τ1)) : (∀ c k : Nat, ¬ (c = 218) → σ1 c k = σ c k) ∧ (∀ c k : Nat, τ1 c k = τ c k) := by
  unfold B_X12_ruled_0 at h
  by_cases c_1 : σ 199 28 = 0
  · rw [if_pos c_1] at h
    obtain ⟨j_2, -, -, h⟩ := ck_some h
    obtain ⟨rfl, rfl, rfl⟩ := sm_inj h
    refine ⟨fun c k hn => ?_, fun c k => ?_⟩
    · rfl
    · rfl
  · rw [if_neg c_1] at h
    have f9 := fr_H_X12_ruled_28 N q N σ τ x2 0 0 _ _ _ h
    refine ⟨fun c k hn => (f9.1 c k hn).trans ?_, fun c k => (f9.2 c k).trans ?_⟩
    · rfl
    · rfl
set_option maxHeartbeats 2000000 in
theorem fr_B_X12_steps_274 (N : Nat) (q : Nat) (σ : gI) (τ : gJ) (x2 : Int32) (x3 : Int32) (x5 : Int32) (y0 : Int32) (y1 : Int32) (y2 : Int32) {r : Int32} {σ1 : gI} {τ1 : gJ} (h : B_X12_steps_274 N q σ τ x2 x3 x5 y0 y1 y2 = some (r, σ1, τ1)) : (∀ c k : Nat, ¬ (c = q ∨ c = 218 ∨ (c = 199 ∧ (k = 34))) → σ1 c k = σ c k) ∧ (∀ c k : Nat, τ1 c k = τ c k) := by
  unfold B_X12_steps_274 at h
  obtain ⟨j_1, -, -, h⟩ := ck_some h
  obtain ⟨σ_2, e_2, h⟩ := nm_some h
  obtain ⟨j_3, -, -, h⟩ := ck_some h
  by_cases c_1 : 0 ≤ σ_2 q j_3
  · rw [if_pos c_1] at h
    obtain ⟨j_5, -, -, h⟩ := ck_some h
    by_cases c_2 : σ_2 201 j_5 = 6
    · rw [if_pos c_2] at h
      obtain ⟨r_9, σ_9, τ_9, q_9, h⟩ := bd_some h
      have f_9 := fr_B_X12_ends_0 N q σ_2 τ x2 1 q_9
      obtain ⟨j_10, -, -, h⟩ := ck_some h
      by_cases c_3 : σ_9 q j_10 = 0
      · rw [if_pos c_3] at h
        obtain ⟨rfl, rfl, rfl⟩ := sm_inj h
        refine ⟨fun c k hn => ?_, fun c k => ?_⟩
        · rw [f_9.1 c k (by omega), e_2, up2_ne (by omega)]
        · rw [f_9.2 c k]
      · rw [if_neg c_3] at h
        obtain ⟨rfl, rfl, rfl⟩ := sm_inj h
        refine ⟨fun c k hn => ?_, fun c k => ?_⟩
        · rw [f_9.1 c k (by omega), e_2, up2_ne (by omega)]
        · rw [f_9.2 c k]
    · rw [if_neg c_2] at h
      obtain ⟨j_7, -, -, h⟩ := ck_some h
      by_cases c_4 : σ_2 q j_7 = 0
      · rw [if_pos c_4] at h
        obtain ⟨rfl, rfl, rfl⟩ := sm_inj h
        refine ⟨fun c k hn => ?_, fun c k => ?_⟩
        · rw [e_2, up2_ne (by omega)]
        · rfl
      · rw [if_neg c_4] at h
        obtain ⟨rfl, rfl, rfl⟩ := sm_inj h
        refine ⟨fun c k hn => ?_, fun c k => ?_⟩
        · rw [e_2, up2_ne (by omega)]
        · rfl
  · rw [if_neg c_1] at h
    obtain ⟨σ_12, e_12, h⟩ := nm_some h
    obtain ⟨r_13, σ_13, τ_13, q_13, h⟩ := bd_some h
    have f_13 := fr_B_X12_ends_0 N q σ_12 τ x2 2 q_13
    obtain ⟨j_14, -, -, h⟩ := ck_some h
    by_cases c_5 : σ_13 q j_14 = 0
    · rw [if_pos c_5] at h
      obtain ⟨rfl, rfl, rfl⟩ := sm_inj h
      refine ⟨fun c k hn => ?_, fun c k => ?_⟩
      · rw [f_13.1 c k (by omega), e_12, up2_ne (by omega), e_2, up2_ne (by omega)]
      · rw [f_13.2 c k]
    · rw [if_neg c_5] at h
      obtain ⟨rfl, rfl, rfl⟩ := sm_inj h
      refine ⟨fun c k hn => ?_, fun c k => ?_⟩
      · rw [f_13.1 c k (by omega), e_12, up2_ne (by omega), e_2, up2_ne (by omega)]
      · rw [f_13.2 c k]
set_option maxHeartbeats 2000000 in
theorem fr_B_X12_steps_211 (N : Nat) (q : Nat) (σ : gI) (τ : gJ) (x2 : Int32) (x3 : Int32) (x4 : Int32) (x5 : Int32) (y0 : Int32) {r : Int32} {σ1 : gI} {τ1 : gJ} (h : B_X12_steps_211 N q σ τ x2 x3 x4 x5 y0 = some (r, σ1, τ1)) : (∀ c k : Nat, ¬ (c = q ∨ c = 218 ∨ (c = 199 ∧ (k = 34))) → σ1 c k = σ c k) ∧ (∀ c k : Nat, τ1 c k = τ c k) := by
  unfold B_X12_steps_211 at h
  obtain ⟨-, h⟩ := cb_some h
  obtain ⟨σ_2, e_2, h⟩ := nm_some h
  obtain ⟨j_3, -, -, h⟩ := ck_some h
  obtain ⟨σ_4, e_4, h⟩ := nm_some h
  obtain ⟨j_5, -, -, h⟩ := ck_some h
  obtain ⟨σ_6, e_6, h⟩ := nm_some h
  obtain ⟨j_7, -, -, h⟩ := ck_some h
  by_cases c_1 : σ_6 199 33 = 0
  · rw [if_pos c_1] at h
    obtain ⟨j_9, -, -, h⟩ := ck_some h
    by_cases c_2 : σ_6 201 j_9 = 2
    · rw [if_pos c_2] at h
      have f9 := fr_B_X12_steps_274 N q σ_6 τ x2 x3 x5 (1 + (σ_6 204 j_9)) (σ_6 q j_7) (x3 + 1) h
      refine ⟨fun c k hn => (f9.1 c k hn).trans ?_, fun c k => (f9.2 c k).trans ?_⟩
      · rw [e_6, up2_ne (by omega), e_4, up2_ne (by omega), e_2, up2_ne (by omega)]
      · rfl
    · rw [if_neg c_2] at h
      have f9 := fr_B_X12_steps_274 N q σ_6 τ x2 x3 x5 1 (σ_6 q j_7) (x3 + 1) h
      refine ⟨fun c k hn => (f9.1 c k hn).trans ?_, fun c k => (f9.2 c k).trans ?_⟩
      · rw [e_6, up2_ne (by omega), e_4, up2_ne (by omega), e_2, up2_ne (by omega)]
      · rfl
  · rw [if_neg c_1] at h
    have f9 := fr_B_X12_steps_274 N q σ_6 τ x2 x3 x5 0 (σ_6 q j_7) (x3 + 1) h
    refine ⟨fun c k hn => (f9.1 c k hn).trans ?_, fun c k => (f9.2 c k).trans ?_⟩
    · rw [e_6, up2_ne (by omega), e_4, up2_ne (by omega), e_2, up2_ne (by omega)]
    · rfl
set_option maxHeartbeats 2000000 in
theorem fr_B_X12_steps_180 (N : Nat) (q : Nat) (σ : gI) (τ : gJ) (x2 : Int32) (x3 : Int32) (x4 : Int32) {r : Int32} {σ1 : gI} {τ1 : gJ} (h : B_X12_steps_180 N q σ τ x2 x3 x4 = some (r, σ1, τ1)) : (∀ c k : Nat, ¬ (c = q ∨ c = 218 ∨ (c = 199 ∧ (k = 34))) → σ1 c k = σ c k) ∧ (∀ c k : Nat, τ1 c k = τ c k) := by
  unfold B_X12_steps_180 at h
  obtain ⟨j_1, -, -, h⟩ := ck_some h
  obtain ⟨v_2, e_2, h⟩ := nm_some h
  by_cases c_1 : σ 199 34 = 0
  · rw [if_pos c_1] at h
    by_cases c_2 : x4 = σ 199 35
    · rw [if_pos c_2] at h
      have f9 := fr_B_X12_steps_211 N q σ τ x2 x3 x4 v_2 1 h
      refine ⟨fun c k hn => (f9.1 c k hn).trans ?_, fun c k => (f9.2 c k).trans ?_⟩
      · rfl
      · rfl
    · rw [if_neg c_2] at h
      have f9 := fr_B_X12_steps_211 N q σ τ x2 x3 x4 v_2 0 h
      refine ⟨fun c k hn => (f9.1 c k hn).trans ?_, fun c k => (f9.2 c k).trans ?_⟩
      · rfl
      · rfl
  · rw [if_neg c_1] at h
    have f9 := fr_B_X12_steps_211 N q σ τ x2 x3 x4 v_2 1 h
    refine ⟨fun c k hn => (f9.1 c k hn).trans ?_, fun c k => (f9.2 c k).trans ?_⟩
    · rfl
    · rfl
set_option maxHeartbeats 2000000 in
theorem fr_B_X12_steps_150 (N : Nat) (q : Nat) (σ : gI) (τ : gJ) (x2 : Int32) (x3 : Int32) (x4 : Int32) {r : Int32} {σ1 : gI} {τ1 : gJ} (h : B_X12_steps_150 N q σ τ x2 x3 x4 = some (r, σ1, τ1)) : (∀ c k : Nat, ¬ (c = q ∨ c = 218 ∨ (c = 199 ∧ (k = 34))) → σ1 c k = σ c k) ∧ (∀ c k : Nat, τ1 c k = τ c k) := by
  unfold B_X12_steps_150 at h
  obtain ⟨j_1, -, -, h⟩ := ck_some h
  by_cases c_1 : σ 201 j_1 = 1
  · rw [if_pos c_1] at h
    obtain ⟨r_3, σ_3, τ_3, q_3, h⟩ := bd_some h
    have f_3 := fr_B_X12_ruled_0 N q σ τ x2 q_3
    by_cases c_2 : r_3 = 0
    · rw [if_pos c_2] at h
      have f9 := fr_B_X12_steps_180 N q σ_3 τ_3 x2 x3 x4 h
      refine ⟨fun c k hn => (f9.1 c k hn).trans ?_, fun c k => (f9.2 c k).trans ?_⟩
      · rw [f_3.1 c k (by omega)]
      · rw [f_3.2 c k]
    · rw [if_neg c_2] at h
      obtain ⟨v_5, e_5, h⟩ := nm_some h
      by_cases c_3 : σ_3 199 34 = 0
      · rw [if_pos c_3] at h
        by_cases c_4 : x4 = σ_3 199 35
        · rw [if_pos c_4] at h
          have f9 := fr_B_X12_steps_211 N q σ_3 τ_3 x2 x3 x4 v_5 1 h
          refine ⟨fun c k hn => (f9.1 c k hn).trans ?_, fun c k => (f9.2 c k).trans ?_⟩
          · rw [f_3.1 c k (by omega)]
          · rw [f_3.2 c k]
        · rw [if_neg c_4] at h
          have f9 := fr_B_X12_steps_211 N q σ_3 τ_3 x2 x3 x4 v_5 0 h
          refine ⟨fun c k hn => (f9.1 c k hn).trans ?_, fun c k => (f9.2 c k).trans ?_⟩
          · rw [f_3.1 c k (by omega)]
          · rw [f_3.2 c k]
      · rw [if_neg c_3] at h
        have f9 := fr_B_X12_steps_211 N q σ_3 τ_3 x2 x3 x4 v_5 1 h
        refine ⟨fun c k hn => (f9.1 c k hn).trans ?_, fun c k => (f9.2 c k).trans ?_⟩
        · rw [f_3.1 c k (by omega)]
        · rw [f_3.2 c k]
  · rw [if_neg c_1] at h
    have f9 := fr_B_X12_steps_180 N q σ τ x2 x3 x4 h
    refine ⟨fun c k hn => (f9.1 c k hn).trans ?_, fun c k => (f9.2 c k).trans ?_⟩
    · rfl
    · rfl
set_option maxHeartbeats 2000000 in
theorem fr_B_X12_steps_94 (N : Nat) (q : Nat) (σ : gI) (τ : gJ) (x2 : Int32) (x3 : Int32) (x4 : Int32) {r : Int32} {σ1 : gI} {τ1 : gJ} (h : B_X12_steps_94 N q σ τ x2 x3 x4 = some (r, σ1, τ1)) : (∀ c k : Nat, ¬ (c = q ∨ c = 218 ∨ (c = 199 ∧ (k = 34))) → σ1 c k = σ c k) ∧ (∀ c k : Nat, τ1 c k = τ c k) := by
  unfold B_X12_steps_94 at h
  obtain ⟨j_1, -, -, h⟩ := ck_some h
  by_cases c_1 : σ 201 j_1 = 4
  · rw [if_pos c_1] at h
    obtain ⟨r_3, σ_3, τ_3, q_3, h⟩ := bd_some h
    have f_3 := fr_B_X12_in_0 N σ τ (((σ q 43) - (σ q 43) / 10 * 10).toInt64) (((σ 204 j_1) / 10).toInt64) (((σ 204 j_1) - (σ 204 j_1) / 10 * 10).toInt64) q_3
    by_cases c_2 : r_3 = 0
    · rw [if_pos c_2] at h
      have f9 := fr_B_X12_steps_150 N q σ_3 τ_3 x2 x3 x4 h
      refine ⟨fun c k hn => (f9.1 c k hn).trans ?_, fun c k => (f9.2 c k).trans ?_⟩
      · rw [f_3.1 c k id]
      · rw [f_3.2 c k]
    · rw [if_neg c_2] at h
      obtain ⟨r_5, σ_5, τ_5, q_5, h⟩ := bd_some h
      have f_5 := fr_B_X12_ends_0 N q σ_3 τ_3 x2 2 q_5
      obtain ⟨rfl, rfl, rfl⟩ := sm_inj h
      refine ⟨fun c k hn => ?_, fun c k => ?_⟩
      · rw [f_5.1 c k (by omega), f_3.1 c k id]
      · rw [f_5.2 c k, f_3.2 c k]
  · rw [if_neg c_1] at h
    have f9 := fr_B_X12_steps_150 N q σ τ x2 x3 x4 h
    refine ⟨fun c k hn => (f9.1 c k hn).trans ?_, fun c k => (f9.2 c k).trans ?_⟩
    · rfl
    · rfl
set_option maxHeartbeats 2000000 in
theorem fr_B_X12_steps_40 (N : Nat) (q : Nat) (σ : gI) (τ : gJ) (x2 : Int32) (x3 : Int32) (x4 : Int32) {r : Int32} {σ1 : gI} {τ1 : gJ} (h : B_X12_steps_40 N q σ τ x2 x3 x4 = some (r, σ1, τ1)) : (∀ c k : Nat, ¬ (c = q ∨ c = 218 ∨ (c = 199 ∧ (k = 34))) → σ1 c k = σ c k) ∧ (∀ c k : Nat, τ1 c k = τ c k) := by
  unfold B_X12_steps_40 at h
  obtain ⟨j_1, -, -, h⟩ := ck_some h
  by_cases c_1 : σ 201 j_1 = 3
  · rw [if_pos c_1] at h
    obtain ⟨j_3, -, -, h⟩ := ck_some h
    by_cases c_2 : σ 204 j_1 ≤ σ q j_3
    · rw [if_pos c_2] at h
      by_cases c_3 : σ 199 33 = 0
      · rw [if_pos c_3] at h
        obtain ⟨σ_6, e_6, h⟩ := nm_some h
        have f9 := fr_B_X12_steps_94 N q σ_6 τ x2 x3 x4 h
        refine ⟨fun c k hn => (f9.1 c k hn).trans ?_, fun c k => (f9.2 c k).trans ?_⟩
        · rw [e_6, up2_ne (by omega)]
        · rfl
      · rw [if_neg c_3] at h
        obtain ⟨σ_7, e_7, h⟩ := nm_some h
        have f9 := fr_B_X12_steps_94 N q σ_7 τ x2 x3 x4 h
        refine ⟨fun c k hn => (f9.1 c k hn).trans ?_, fun c k => (f9.2 c k).trans ?_⟩
        · rw [e_7, up2_ne (by omega)]
        · rfl
    · rw [if_neg c_2] at h
      obtain ⟨rfl, rfl, rfl⟩ := sm_inj h
      refine ⟨fun c k hn => ?_, fun c k => ?_⟩
      · rfl
      · rfl
  · rw [if_neg c_1] at h
    have f9 := fr_B_X12_steps_94 N q σ τ x2 x3 x4 h
    refine ⟨fun c k hn => (f9.1 c k hn).trans ?_, fun c k => (f9.2 c k).trans ?_⟩
    · rfl
    · rfl
set_option maxHeartbeats 2000000 in
theorem fr_B_X12_steps_0 (N : Nat) (q : Nat) (σ : gI) (τ : gJ) (x2 : Int32) {r : Int32} {σ1 : gI} {τ1 : gJ} (h : B_X12_steps_0 N q σ τ x2 = some (r, σ1, τ1)) : (∀ c k : Nat, ¬ (c = q ∨ c = 218 ∨ (c = 199 ∧ (k = 34))) → σ1 c k = σ c k) ∧ (∀ c k : Nat, τ1 c k = τ c k) := by
  unfold B_X12_steps_0 at h
  obtain ⟨v_1, e_1, h⟩ := nm_some h
  obtain ⟨j_2, -, -, h⟩ := ck_some h
  obtain ⟨v_3, e_3, h⟩ := nm_some h
  obtain ⟨j_4, -, -, h⟩ := ck_some h
  by_cases c_1 : σ 201 j_4 = 5
  · rw [if_pos c_1] at h
    obtain ⟨-, h⟩ := dz_some h
    by_cases c_2 : (σ q 43) - (σ q 43) / (σ 204 j_4) * (σ 204 j_4) = 0
    · rw [if_pos c_2] at h
      have f9 := fr_B_X12_steps_40 N q σ τ x2 v_1 v_3 h
      refine ⟨fun c k hn => (f9.1 c k hn).trans ?_, fun c k => (f9.2 c k).trans ?_⟩
      · rfl
      · rfl
    · rw [if_neg c_2] at h
      obtain ⟨rfl, rfl, rfl⟩ := sm_inj h
      refine ⟨fun c k hn => ?_, fun c k => ?_⟩
      · rfl
      · rfl
  · rw [if_neg c_1] at h
    have f9 := fr_B_X12_steps_40 N q σ τ x2 v_1 v_3 h
    refine ⟨fun c k hn => (f9.1 c k hn).trans ?_, fun c k => (f9.2 c k).trans ?_⟩
    · rfl
    · rfl
set_option maxHeartbeats 2000000 in
theorem fr_C_X12_minuteGoes_55 (N : Nat) (q : Nat) (rec_11 : gI → gJ → Int32 → Int32 → Option (Unit × gI × gJ)) (hrec_11 : ∀ (σ : gI) (τ : gJ) (x2 : Int32) (x3 : Int32) (r : Unit) (σ1 : gI) (τ1 : gJ), rec_11 σ τ x2 x3 = some (r, σ1, τ1) → (∀ c k : Nat, ¬ (c = q ∨ c = 218 ∨ (c = 199 ∧ (k = 34))) → σ1 c k = σ c k) ∧ (∀ c k : Nat, τ1 c k = τ c k)) (rec_55 : gI → gJ → Int32 → Int32 → Int32 → Int32 → Option (Unit × gI × gJ)) (hrec_55 : ∀ (σ : gI) (τ : gJ) (x2 : Int32) (x3 : Int32) (x4 : Int32) (x5 : Int32) (r : Unit) (σ1 : gI) (τ1 : gJ), rec_55 σ τ x2 x3 x4 x5 = some (r, σ1, τ1) → (∀ c k : Nat, ¬ (c = q ∨ c = 218 ∨ (c = 199 ∧ (k = 34))) → σ1 c k = σ c k) ∧ (∀ c k : Nat, τ1 c k = τ c k)) (σ : gI) (τ : gJ) (x2 : Int32) (x3 : Int32) (x4 : Int32) (x5 : Int32) {r : Unit} {σ1 : gI} {τ1 : gJ} (h : C_X12_minuteGoes_55 N q rec_11 rec_55 σ τ x2 x3 x4 x5 = some (r, σ1, τ1)) : (∀ c k : Nat, ¬ (c = q ∨ c = 218 ∨ (c = 199 ∧ (k = 34))) → σ1 c k = σ c k) ∧ (∀ c k : Nat, τ1 c k = τ c k) := by
  unfold C_X12_minuteGoes_55 at h
  by_cases c_1 : x2 ≤ x5
  · rw [if_pos c_1] at h
    obtain ⟨v_2, e_2, h⟩ := nm_some h
    have f9 := hrec_11 σ τ x2 v_2 _ _ _ h
    refine ⟨fun c k hn => (f9.1 c k hn).trans ?_, fun c k => (f9.2 c k).trans ?_⟩
    · rfl
    · rfl
  · rw [if_neg c_1] at h
    by_cases c_2 : x4 = 0
    · rw [if_pos c_2] at h
      obtain ⟨v_4, e_4, h⟩ := nm_some h
      have f9 := hrec_11 σ τ x2 v_4 _ _ _ h
      refine ⟨fun c k hn => (f9.1 c k hn).trans ?_, fun c k => (f9.2 c k).trans ?_⟩
      · rfl
      · rfl
    · rw [if_neg c_2] at h
      obtain ⟨r_5, σ_5, τ_5, q_5, h⟩ := bd_some h
      have f_5 := fr_B_X12_steps_0 N q σ τ x3 q_5
      obtain ⟨v_6, e_6, h⟩ := nm_some h
      have f9 := hrec_55 σ_5 τ_5 x2 x3 r_5 v_6 _ _ _ h
      refine ⟨fun c k hn => (f9.1 c k hn).trans ?_, fun c k => (f9.2 c k).trans ?_⟩
      · rw [f_5.1 c k (by omega)]
      · rw [f_5.2 c k]
theorem fr_H_X12_minuteGoes_55 (N : Nat) (q : Nat) (rec_11 : gI → gJ → Int32 → Int32 → Option (Unit × gI × gJ)) (hrec_11 : ∀ (σ : gI) (τ : gJ) (x2 : Int32) (x3 : Int32) (r : Unit) (σ1 : gI) (τ1 : gJ), rec_11 σ τ x2 x3 = some (r, σ1, τ1) → (∀ c k : Nat, ¬ (c = q ∨ c = 218 ∨ (c = 199 ∧ (k = 34))) → σ1 c k = σ c k) ∧ (∀ c k : Nat, τ1 c k = τ c k)) : ∀ (n : Nat) (σ : gI) (τ : gJ) (x2 : Int32) (x3 : Int32) (x4 : Int32) (x5 : Int32) (r : Unit) (σ1 : gI) (τ1 : gJ), H_X12_minuteGoes_55 N q rec_11 n σ τ x2 x3 x4 x5 = some (r, σ1, τ1) → (∀ c k : Nat, ¬ (c = q ∨ c = 218 ∨ (c = 199 ∧ (k = 34))) → σ1 c k = σ c k) ∧ (∀ c k : Nat, τ1 c k = τ c k) := by
  intro n
  induction n with
  | zero => intro σ τ x2 x3 x4 x5 r σ1 τ1 h; cases h
  | succ n ih =>
    intro σ τ x2 x3 x4 x5 r σ1 τ1 h
    exact fr_C_X12_minuteGoes_55 N q rec_11 hrec_11 (H_X12_minuteGoes_55 N q rec_11 n) ih σ τ x2 x3 x4 x5 h
set_option maxHeartbeats 2000000 in
theorem fr_C_X12_minuteGoes_11 (N : Nat) (q : Nat) (rec_11 : gI → gJ → Int32 → Int32 → Option (Unit × gI × gJ)) (hrec_11 : ∀ (σ : gI) (τ : gJ) (x2 : Int32) (x3 : Int32) (r : Unit) (σ1 : gI) (τ1 : gJ), rec_11 σ τ x2 x3 = some (r, σ1, τ1) → (∀ c k : Nat, ¬ (c = q ∨ c = 218 ∨ (c = 199 ∧ (k = 34))) → σ1 c k = σ c k) ∧ (∀ c k : Nat, τ1 c k = τ c k)) (σ : gI) (τ : gJ) (x2 : Int32) (x3 : Int32) {r : Unit} {σ1 : gI} {τ1 : gJ} (h : C_X12_minuteGoes_11 N q rec_11 σ τ x2 x3 = some (r, σ1, τ1)) : (∀ c k : Nat, ¬ (c = q ∨ c = 218 ∨ (c = 199 ∧ (k = 34))) → σ1 c k = σ c k) ∧ (∀ c k : Nat, τ1 c k = τ c k) := by
  unfold C_X12_minuteGoes_11 at h
  by_cases c_1 : σ q 44 ≤ x3
  · rw [if_pos c_1] at h
    obtain ⟨σ_2, e_2, h⟩ := nm_some h
    obtain ⟨-, rfl, rfl⟩ := sm_inj h
    refine ⟨fun c k hn => ?_, fun c k => ?_⟩
    · rw [e_2, up2_ne (by omega)]
    · rfl
  · rw [if_neg c_1] at h
    obtain ⟨j_3, -, -, h⟩ := ck_some h
    by_cases c_2 : σ q j_3 = 0
    · rw [if_pos c_2] at h
      obtain ⟨j_5, -, -, h⟩ := ck_some h
      by_cases c_3 : σ q 43 < σ q j_5
      · rw [if_pos c_3] at h
        have f9 := fr_H_X12_minuteGoes_55 N q rec_11 hrec_11 N σ τ x2 x3 0 0 _ _ _ h
        refine ⟨fun c k hn => (f9.1 c k hn).trans ?_, fun c k => (f9.2 c k).trans ?_⟩
        · rfl
        · rfl
      · rw [if_neg c_3] at h
        have f9 := fr_H_X12_minuteGoes_55 N q rec_11 hrec_11 N σ τ x2 x3 1 0 _ _ _ h
        refine ⟨fun c k hn => (f9.1 c k hn).trans ?_, fun c k => (f9.2 c k).trans ?_⟩
        · rfl
        · rfl
    · rw [if_neg c_2] at h
      have f9 := fr_H_X12_minuteGoes_55 N q rec_11 hrec_11 N σ τ x2 x3 0 0 _ _ _ h
      refine ⟨fun c k hn => (f9.1 c k hn).trans ?_, fun c k => (f9.2 c k).trans ?_⟩
      · rfl
      · rfl
theorem fr_H_X12_minuteGoes_11 (N : Nat) (q : Nat) : ∀ (n : Nat) (σ : gI) (τ : gJ) (x2 : Int32) (x3 : Int32) (r : Unit) (σ1 : gI) (τ1 : gJ), H_X12_minuteGoes_11 N q n σ τ x2 x3 = some (r, σ1, τ1) → (∀ c k : Nat, ¬ (c = q ∨ c = 218 ∨ (c = 199 ∧ (k = 34))) → σ1 c k = σ c k) ∧ (∀ c k : Nat, τ1 c k = τ c k) := by
  intro n
  induction n with
  | zero => intro σ τ x2 x3 r σ1 τ1 h; cases h
  | succ n ih =>
    intro σ τ x2 x3 r σ1 τ1 h
    exact fr_C_X12_minuteGoes_11 N q (H_X12_minuteGoes_11 N q n) ih σ τ x2 x3 h
set_option maxHeartbeats 2000000 in
theorem fr_B_X12_minuteGoes_0 (N : Nat) (q : Nat) (σ : gI) (τ : gJ) {r : Unit} {σ1 : gI} {τ1 : gJ} (h : B_X12_minuteGoes_0 N q σ τ = some (r, σ1, τ1)) : (∀ c k : Nat, ¬ (c = q ∨ c = 218 ∨ (c = 199 ∧ (k = 34))) → σ1 c k = σ c k) ∧ (∀ c k : Nat, τ1 c k = τ c k) := by
  unfold B_X12_minuteGoes_0 at h
  obtain ⟨r_1, σ_1, τ_1, q_1, h⟩ := bd_some h
  have f_1 := fr_B_X12_waterIn_0 N σ τ (σ q 43) q_1
  have f9 := fr_H_X12_minuteGoes_11 N q N σ_1 τ_1 r_1 0 _ _ _ h
  refine ⟨fun c k hn => (f9.1 c k hn).trans ?_, fun c k => (f9.2 c k).trans ?_⟩
  · rw [f_1.1 c k id]
  · rw [f_1.2 c k]
set_option maxHeartbeats 2000000 in
theorem fr_C_X12_endsAfter_3 (N : Nat) (q : Nat) (rec_3 : gI → gJ → Int32 → Int32 → Option (Int32 × gI × gJ)) (hrec_3 : ∀ (σ : gI) (τ : gJ) (x2 : Int32) (x4 : Int32) (r : Int32) (σ1 : gI) (τ1 : gJ), rec_3 σ τ x2 x4 = some (r, σ1, τ1) → (∀ c k : Nat, ¬ (c = q ∨ c = 218 ∨ (c = 199 ∧ (k = 34))) → σ1 c k = σ c k) ∧ (∀ c k : Nat, τ1 c k = τ c k)) (σ : gI) (τ : gJ) (x2 : Int32) (x4 : Int32) {r : Int32} {σ1 : gI} {τ1 : gJ} (h : C_X12_endsAfter_3 N q rec_3 σ τ x2 x4 = some (r, σ1, τ1)) : (∀ c k : Nat, ¬ (c = q ∨ c = 218 ∨ (c = 199 ∧ (k = 34))) → σ1 c k = σ c k) ∧ (∀ c k : Nat, τ1 c k = τ c k) := by
  unfold C_X12_endsAfter_3 at h
  by_cases c_1 : 300 < x4
  · rw [if_pos c_1] at h
    obtain ⟨rfl, rfl, rfl⟩ := sm_inj h
    refine ⟨fun c k hn => ?_, fun c k => ?_⟩
    · rfl
    · rfl
  · rw [if_neg c_1] at h
    obtain ⟨j_2, -, -, h⟩ := ck_some h
    by_cases c_2 : σ q j_2 = 0
    · rw [if_pos c_2] at h
      by_cases c_3 : 300 ≤ x4
      · rw [if_pos c_3] at h
        obtain ⟨v_5, e_5, h⟩ := nm_some h
        have f9 := hrec_3 σ τ x2 v_5 _ _ _ h
        refine ⟨fun c k hn => (f9.1 c k hn).trans ?_, fun c k => (f9.2 c k).trans ?_⟩
        · rfl
        · rfl
      · rw [if_neg c_3] at h
        obtain ⟨r_6, σ_6, τ_6, q_6, h⟩ := bd_some h
        have f_6 := fr_B_X12_minuteGoes_0 N q σ τ q_6
        obtain ⟨v_7, e_7, h⟩ := nm_some h
        have f9 := hrec_3 σ_6 τ_6 x2 v_7 _ _ _ h
        refine ⟨fun c k hn => (f9.1 c k hn).trans ?_, fun c k => (f9.2 c k).trans ?_⟩
        · rw [f_6.1 c k (by omega)]
        · rw [f_6.2 c k]
    · rw [if_neg c_2] at h
      obtain ⟨rfl, rfl, rfl⟩ := sm_inj h
      refine ⟨fun c k hn => ?_, fun c k => ?_⟩
      · rfl
      · rfl
theorem fr_H_X12_endsAfter_3 (N : Nat) (q : Nat) : ∀ (n : Nat) (σ : gI) (τ : gJ) (x2 : Int32) (x4 : Int32) (r : Int32) (σ1 : gI) (τ1 : gJ), H_X12_endsAfter_3 N q n σ τ x2 x4 = some (r, σ1, τ1) → (∀ c k : Nat, ¬ (c = q ∨ c = 218 ∨ (c = 199 ∧ (k = 34))) → σ1 c k = σ c k) ∧ (∀ c k : Nat, τ1 c k = τ c k) := by
  intro n
  induction n with
  | zero => intro σ τ x2 x4 r σ1 τ1 h; cases h
  | succ n ih =>
    intro σ τ x2 x4 r σ1 τ1 h
    exact fr_C_X12_endsAfter_3 N q (H_X12_endsAfter_3 N q n) ih σ τ x2 x4 h
set_option maxHeartbeats 2000000 in
theorem fr_B_X12_endsAfter_0 (N : Nat) (q : Nat) (σ : gI) (τ : gJ) (x2 : Int32) (x3 : Int32) {r : Int32} {σ1 : gI} {τ1 : gJ} (h : B_X12_endsAfter_0 N q σ τ x2 x3 = some (r, σ1, τ1)) : (∀ c k : Nat, ¬ (c = q ∨ c = 218 ∨ (c = 199 ∧ (k = 34))) → σ1 c k = σ c k) ∧ (∀ c k : Nat, τ1 c k = τ c k) := by
  unfold B_X12_endsAfter_0 at h
  have f9 := fr_H_X12_endsAfter_3 N q N σ τ x2 x3 _ _ _ h
  refine ⟨fun c k hn => (f9.1 c k hn).trans ?_, fun c k => (f9.2 c k).trans ?_⟩
  · rfl
  · rfl
set_option maxHeartbeats 2000000 in
theorem fr_B_X12_goesAlone_0 (N : Nat) (σ : gI) (τ : gJ) (x1 : Int32) (x2 : Int32) (x3 : Int32) (x4 : Int32) {r : Int32} {σ1 : gI} {τ1 : gJ} (h : B_X12_goesAlone_0 N σ τ x1 x2 x3 x4 = some (r, σ1, τ1)) : (∀ c k : Nat, ¬ (c = 218 ∨ c = 224 ∨ (c = 199 ∧ (k = 34))) → σ1 c k = σ c k) ∧ (∀ c k : Nat, τ1 c k = τ c k) := by
  unfold B_X12_goesAlone_0 at h
  obtain ⟨r_1, σ_1, τ_1, q_1, h⟩ := bd_some h
  have f_1 := fr_B_X12_laysAlone_0 N σ τ x1 x2 x3 x4 q_1
  obtain ⟨r_2, σ_2, τ_2, q_2, h⟩ := bd_some h
  have f_2 := fr_B_X12_endsAfter_0 N 224 σ_1 τ_1 0 0 q_2
  obtain ⟨rfl, rfl, rfl⟩ := sm_inj h
  refine ⟨fun c k hn => ?_, fun c k => ?_⟩
  · rw [f_2.1 c k (by omega), f_1.1 c k (by omega)]
  · rw [f_2.2 c k, f_1.2 c k]
set_option maxHeartbeats 2000000 in
theorem fr_B_X12_sails_0 (N : Nat) (σ : gI) (τ : gJ) (x1 : Int32) (x2 : Int32) (x3 : Int32) (x4 : Int32) (x5 : Int32) {r : Int32} {σ1 : gI} {τ1 : gJ} (h : B_X12_sails_0 N σ τ x1 x2 x3 x4 x5 = some (r, σ1, τ1)) : (∀ c k : Nat, ¬ (c = 218 ∨ c = 224 ∨ (c = 199 ∧ (k = 34))) → σ1 c k = σ c k) ∧ (∀ c k : Nat, τ1 c k = τ c k) := by
  unfold B_X12_sails_0 at h
  obtain ⟨r_1, σ_1, τ_1, q_1, h⟩ := bd_some h
  have f_1 := fr_B_X12_goesAlone_0 N σ τ x1 x2 x3 x4 q_1
  by_cases c_1 : r_1 < 0
  · rw [if_pos c_1] at h
    obtain ⟨rfl, rfl, rfl⟩ := sm_inj h
    refine ⟨fun c k hn => ?_, fun c k => ?_⟩
    · rw [f_1.1 c k (by omega)]
    · rw [f_1.2 c k]
  · rw [if_neg c_1] at h
    by_cases c_2 : σ_1 224 4 = 1
    · rw [if_pos c_2] at h
      by_cases c_3 : σ_1 224 0 = x5
      · rw [if_pos c_3] at h
        obtain ⟨rfl, rfl, rfl⟩ := sm_inj h
        refine ⟨fun c k hn => ?_, fun c k => ?_⟩
        · rw [f_1.1 c k (by omega)]
        · rw [f_1.2 c k]
      · rw [if_neg c_3] at h
        obtain ⟨rfl, rfl, rfl⟩ := sm_inj h
        refine ⟨fun c k hn => ?_, fun c k => ?_⟩
        · rw [f_1.1 c k (by omega)]
        · rw [f_1.2 c k]
    · rw [if_neg c_2] at h
      obtain ⟨rfl, rfl, rfl⟩ := sm_inj h
      refine ⟨fun c k hn => ?_, fun c k => ?_⟩
      · rw [f_1.1 c k (by omega)]
      · rw [f_1.2 c k]
set_option maxHeartbeats 2000000 in
theorem fr_B_X12_enters_0 (N : Nat) (σ : gI) (τ : gJ) (x1 : Int64) {r : Unit} {σ1 : gI} {τ1 : gJ} (h : B_X12_enters_0 N σ τ x1 = some (r, σ1, τ1)) : (∀ c k : Nat, ¬ ((c = 199 ∧ (k = 1))) → σ1 c k = σ c k) ∧ (∀ c k : Nat, c ≠ 200 → τ1 c k = τ c k) := by
  unfold B_X12_enters_0 at h
  obtain ⟨j_1, -, -, h⟩ := ck_some h
  obtain ⟨τ_2, e_2, h⟩ := nm_some h
  obtain ⟨σ_3, e_3, h⟩ := nm_some h
  obtain ⟨-, rfl, rfl⟩ := sm_inj h
  refine ⟨fun c k hn => ?_, fun c k hn => ?_⟩
  · rw [e_3, up2_ne (by omega)]
  · rw [e_2, upJ_ne (by omega)]
set_option maxHeartbeats 2000000 in
theorem fr_B_X12_basin_89 (N : Nat) (rec_34 : gI → gJ → Int32 → Int32 → Int32 → Int32 → Int32 → Int32 → Int32 → Option (Int32 × gI × gJ)) (hrec_34 : ∀ (σ : gI) (τ : gJ) (x1 : Int32) (x2 : Int32) (x3 : Int32) (x4 : Int32) (x5 : Int32) (x6 : Int32) (x7 : Int32) (r : Int32) (σ1 : gI) (τ1 : gJ), rec_34 σ τ x1 x2 x3 x4 x5 x6 x7 = some (r, σ1, τ1) → (∀ c k : Nat, ¬ (c = 218 ∨ c = 224 ∨ (c = 199 ∧ (k = 0 ∨ k = 1 ∨ k = 34 ∨ k = 45 ∨ k = 46))) → σ1 c k = σ c k) ∧ (∀ c k : Nat, c ≠ 200 → τ1 c k = τ c k)) (σ : gI) (τ : gJ) (x1 : Int32) (x2 : Int32) (x3 : Int32) (x4 : Int32) (x6 : Int32) (x7 : Int32) (y0 : Int32) (y1 : Int32) {r : Int32} {σ1 : gI} {τ1 : gJ} (h : B_X12_basin_89 N rec_34 σ τ x1 x2 x3 x4 x6 x7 y0 y1 = some (r, σ1, τ1)) : (∀ c k : Nat, ¬ (c = 218 ∨ c = 224 ∨ (c = 199 ∧ (k = 0 ∨ k = 1 ∨ k = 34 ∨ k = 45 ∨ k = 46))) → σ1 c k = σ c k) ∧ (∀ c k : Nat, c ≠ 200 → τ1 c k = τ c k) := by
  unfold B_X12_basin_89 at h
  obtain ⟨v_1, e_1, h⟩ := nm_some h
  by_cases c_1 : σ 224 4 = 2
  · rw [if_pos c_1] at h
    obtain ⟨v_5, e_5, h⟩ := nm_some h
    obtain ⟨v_6, e_6, h⟩ := nm_some h
    have f9 := hrec_34 σ τ x1 x2 x3 x4 v_1 v_5 v_6 _ _ _ h
    refine ⟨fun c k hn => (f9.1 c k hn).trans ?_, fun c k hn => (f9.2 c k hn).trans ?_⟩
    · rfl
    · rfl
  · rw [if_neg c_1] at h
    obtain ⟨v_3, e_3, h⟩ := nm_some h
    obtain ⟨v_4, e_4, h⟩ := nm_some h
    have f9 := hrec_34 σ τ x1 x2 x3 x4 v_1 v_3 v_4 _ _ _ h
    refine ⟨fun c k hn => (f9.1 c k hn).trans ?_, fun c k hn => (f9.2 c k hn).trans ?_⟩
    · rfl
    · rfl
set_option maxHeartbeats 2000000 in
theorem fr_C_X12_basin_34 (N : Nat) (rec_34 : gI → gJ → Int32 → Int32 → Int32 → Int32 → Int32 → Int32 → Int32 → Option (Int32 × gI × gJ)) (hrec_34 : ∀ (σ : gI) (τ : gJ) (x1 : Int32) (x2 : Int32) (x3 : Int32) (x4 : Int32) (x5 : Int32) (x6 : Int32) (x7 : Int32) (r : Int32) (σ1 : gI) (τ1 : gJ), rec_34 σ τ x1 x2 x3 x4 x5 x6 x7 = some (r, σ1, τ1) → (∀ c k : Nat, ¬ (c = 218 ∨ c = 224 ∨ (c = 199 ∧ (k = 0 ∨ k = 1 ∨ k = 34 ∨ k = 45 ∨ k = 46))) → σ1 c k = σ c k) ∧ (∀ c k : Nat, c ≠ 200 → τ1 c k = τ c k)) (σ : gI) (τ : gJ) (x1 : Int32) (x2 : Int32) (x3 : Int32) (x4 : Int32) (x5 : Int32) (x6 : Int32) (x7 : Int32) {r : Int32} {σ1 : gI} {τ1 : gJ} (h : C_X12_basin_34 N rec_34 σ τ x1 x2 x3 x4 x5 x6 x7 = some (r, σ1, τ1)) : (∀ c k : Nat, ¬ (c = 218 ∨ c = 224 ∨ (c = 199 ∧ (k = 0 ∨ k = 1 ∨ k = 34 ∨ k = 45 ∨ k = 46))) → σ1 c k = σ c k) ∧ (∀ c k : Nat, c ≠ 200 → τ1 c k = τ c k) := by
  unfold C_X12_basin_34 at h
  by_cases c_1 : σ 199 3 ≤ x7
  · rw [if_pos c_1] at h
    obtain ⟨σ_2, e_2, h⟩ := nm_some h
    obtain ⟨r_3, σ_3, τ_3, q_3, h⟩ := bd_some h
    have f_3 := fr_B_X12_enters_0 N σ_2 τ x5.toInt64 q_3
    obtain ⟨r_4, σ_4, τ_4, q_4, h⟩ := bd_some h
    have f_4 := fr_B_X12_enters_0 N σ_3 τ_3 x6.toInt64 q_4
    obtain ⟨rfl, rfl, rfl⟩ := sm_inj h
    refine ⟨fun c k hn => ?_, fun c k hn => ?_⟩
    · rw [f_4.1 c k (by omega), f_3.1 c k (by omega), e_2, up2_ne (by omega)]
    · rw [f_4.2 c k hn, f_3.2 c k hn]
  · rw [if_neg c_1] at h
    obtain ⟨r_5, σ_5, τ_5, q_5, h⟩ := bd_some h
    have f_5 := fr_B_X12_sails_0 N σ τ x7 x1 x2 0 x3 q_5
    by_cases c_2 : r_5 < 0
    · rw [if_pos c_2] at h
      obtain ⟨v_7, e_7, h⟩ := nm_some h
      by_cases c_3 : σ_5 224 4 = 1
      · rw [if_pos c_3] at h
        have f9 := fr_B_X12_basin_89 N rec_34 hrec_34 σ_5 τ_5 x1 x2 x3 v_7 x6 x7 (1 <<< (x7 &&& 31)) x5 h
        refine ⟨fun c k hn => (f9.1 c k hn).trans ?_, fun c k hn => (f9.2 c k hn).trans ?_⟩
        · rw [f_5.1 c k (by omega)]
        · rw [f_5.2 c k]
      · rw [if_neg c_3] at h
        have f9 := fr_B_X12_basin_89 N rec_34 hrec_34 σ_5 τ_5 x1 x2 x3 v_7 x6 x7 0 x5 h
        refine ⟨fun c k hn => (f9.1 c k hn).trans ?_, fun c k hn => (f9.2 c k hn).trans ?_⟩
        · rw [f_5.1 c k (by omega)]
        · rw [f_5.2 c k]
    · rw [if_neg c_2] at h
      obtain ⟨v_9, e_9, h⟩ := nm_some h
      by_cases c_4 : σ_5 224 4 = 1
      · rw [if_pos c_4] at h
        have f9 := fr_B_X12_basin_89 N rec_34 hrec_34 σ_5 τ_5 x1 x2 x3 v_9 x6 x7 (1 <<< (x7 &&& 31)) x5 h
        refine ⟨fun c k hn => (f9.1 c k hn).trans ?_, fun c k hn => (f9.2 c k hn).trans ?_⟩
        · rw [f_5.1 c k (by omega)]
        · rw [f_5.2 c k]
      · rw [if_neg c_4] at h
        have f9 := fr_B_X12_basin_89 N rec_34 hrec_34 σ_5 τ_5 x1 x2 x3 v_9 x6 x7 0 x5 h
        refine ⟨fun c k hn => (f9.1 c k hn).trans ?_, fun c k hn => (f9.2 c k hn).trans ?_⟩
        · rw [f_5.1 c k (by omega)]
        · rw [f_5.2 c k]
theorem fr_H_X12_basin_34 (N : Nat) : ∀ (n : Nat) (σ : gI) (τ : gJ) (x1 : Int32) (x2 : Int32) (x3 : Int32) (x4 : Int32) (x5 : Int32) (x6 : Int32) (x7 : Int32) (r : Int32) (σ1 : gI) (τ1 : gJ), H_X12_basin_34 N n σ τ x1 x2 x3 x4 x5 x6 x7 = some (r, σ1, τ1) → (∀ c k : Nat, ¬ (c = 218 ∨ c = 224 ∨ (c = 199 ∧ (k = 0 ∨ k = 1 ∨ k = 34 ∨ k = 45 ∨ k = 46))) → σ1 c k = σ c k) ∧ (∀ c k : Nat, c ≠ 200 → τ1 c k = τ c k) := by
  intro n
  induction n with
  | zero => intro σ τ x1 x2 x3 x4 x5 x6 x7 r σ1 τ1 h; cases h
  | succ n ih =>
    intro σ τ x1 x2 x3 x4 x5 x6 x7 r σ1 τ1 h
    exact fr_C_X12_basin_34 N (H_X12_basin_34 N n) ih σ τ x1 x2 x3 x4 x5 x6 x7 h
set_option maxHeartbeats 2000000 in
theorem fr_B_X12_basin_0 (N : Nat) (σ : gI) (τ : gJ) (x1 : Int32) (x2 : Int32) (x3 : Int32) {r : Int32} {σ1 : gI} {τ1 : gJ} (h : B_X12_basin_0 N σ τ x1 x2 x3 = some (r, σ1, τ1)) : (∀ c k : Nat, ¬ (c = 218 ∨ c = 224 ∨ (c = 199 ∧ (k = 0 ∨ k = 1 ∨ k = 34 ∨ k = 45 ∨ k = 46))) → σ1 c k = σ c k) ∧ (∀ c k : Nat, c ≠ 200 → τ1 c k = τ c k) := by
  unfold B_X12_basin_0 at h
  obtain ⟨σ_1, e_1, h⟩ := nm_some h
  obtain ⟨r_2, σ_2, τ_2, q_2, h⟩ := bd_some h
  have f_2 := fr_B_X12_canSail_0 N σ_1 τ 0 x1 x2 x3 q_2
  by_cases c_1 : r_2 = 0
  · rw [if_pos c_1] at h
    obtain ⟨rfl, rfl, rfl⟩ := sm_inj h
    refine ⟨fun c k hn => ?_, fun c k hn => ?_⟩
    · rw [f_2.1 c k id, e_1, up2_ne (by omega)]
    · rw [f_2.2 c k]
  · rw [if_neg c_1] at h
    obtain ⟨r_4, σ_4, τ_4, q_4, h⟩ := bd_some h
    have f_4 := fr_B_X12_thinksNow_0 N σ_2 τ_2 q_4
    have f9 := fr_H_X12_basin_34 N N σ_4 τ_4 x1 x2 x3 0 0 0 0 _ _ _ h
    refine ⟨fun c k hn => (f9.1 c k hn).trans ?_, fun c k hn => (f9.2 c k hn).trans ?_⟩
    · rw [f_4.1 c k (by omega), f_2.1 c k id, e_1, up2_ne (by omega)]
    · rw [f_4.2 c k, f_2.2 c k]
set_option maxHeartbeats 2000000 in
theorem fr_B_X12_begins_0 (N : Nat) (σ : gI) (τ : gJ) (x1 : Int32) {r : Int32} {σ1 : gI} {τ1 : gJ} (h : B_X12_begins_0 N σ τ x1 = some (r, σ1, τ1)) : (∀ c k : Nat, ¬ ((c = 199 ∧ (k = 13 ∨ k = 14 ∨ k = 15 ∨ k = 16))) → σ1 c k = σ c k) ∧ (∀ c k : Nat, τ1 c k = τ c k) := by
  unfold B_X12_begins_0 at h
  obtain ⟨v_1, e_1, h⟩ := nm_some h
  obtain ⟨σ_2, e_2, h⟩ := nm_some h
  obtain ⟨σ_3, e_3, h⟩ := nm_some h
  obtain ⟨σ_4, e_4, h⟩ := nm_some h
  obtain ⟨σ_5, e_5, h⟩ := nm_some h
  obtain ⟨rfl, rfl, rfl⟩ := sm_inj h
  refine ⟨fun c k hn => ?_, fun c k => ?_⟩
  · rw [e_5, up2_ne (by omega), e_4, up2_ne (by omega), e_3, up2_ne (by omega), e_2, up2_ne (by omega)]
  · rfl
set_option maxHeartbeats 2000000 in
theorem fr_C_X12_boat_25 (N : Nat) (rec_25 : gI → gJ → Int32 → Int32 → Int32 → Int32 → Option (Int32 × gI × gJ)) (hrec_25 : ∀ (σ : gI) (τ : gJ) (x1 : Int32) (x2 : Int32) (x3 : Int32) (x4 : Int32) (r : Int32) (σ1 : gI) (τ1 : gJ), rec_25 σ τ x1 x2 x3 x4 = some (r, σ1, τ1) → (∀ c k : Nat, ¬ (c = 218 ∨ c = 224 ∨ (c = 199 ∧ (k = 0 ∨ k = 1 ∨ k = 34 ∨ k = 45 ∨ k = 46))) → σ1 c k = σ c k) ∧ (∀ c k : Nat, c ≠ 200 → τ1 c k = τ c k)) (σ : gI) (τ : gJ) (x1 : Int32) (x2 : Int32) (x3 : Int32) (x4 : Int32) {r : Int32} {σ1 : gI} {τ1 : gJ} (h : C_X12_boat_25 N rec_25 σ τ x1 x2 x3 x4 = some (r, σ1, τ1)) : (∀ c k : Nat, ¬ (c = 218 ∨ c = 224 ∨ (c = 199 ∧ (k = 0 ∨ k = 1 ∨ k = 34 ∨ k = 45 ∨ k = 46))) → σ1 c k = σ c k) ∧ (∀ c k : Nat, c ≠ 200 → τ1 c k = τ c k) := by
  unfold C_X12_boat_25 at h
  by_cases c_1 : 99 < x4
  · rw [if_pos c_1] at h
    obtain ⟨rfl, rfl, rfl⟩ := sm_inj h
    refine ⟨fun c k hn => ?_, fun c k hn => ?_⟩
    · rfl
    · rfl
  · rw [if_neg c_1] at h
    obtain ⟨r_2, σ_2, τ_2, q_2, h⟩ := bd_some h
    have f_2 := fr_B_X12_sails_0 N σ τ x1 x4 x2 0 x3 q_2
    by_cases c_2 : r_2 < 0
    · rw [if_pos c_2] at h
      obtain ⟨v_4, e_4, h⟩ := nm_some h
      have f9 := hrec_25 σ_2 τ_2 x1 x2 x3 v_4 _ _ _ h
      refine ⟨fun c k hn => (f9.1 c k hn).trans ?_, fun c k hn => (f9.2 c k hn).trans ?_⟩
      · rw [f_2.1 c k (by omega)]
      · rw [f_2.2 c k]
    · rw [if_neg c_2] at h
      obtain ⟨σ_5, e_5, h⟩ := nm_some h
      obtain ⟨r_6, σ_6, τ_6, q_6, h⟩ := bd_some h
      have f_6 := fr_B_X12_enters_0 N σ_5 τ_2 r_2.toInt64 q_6
      obtain ⟨rfl, rfl, rfl⟩ := sm_inj h
      refine ⟨fun c k hn => ?_, fun c k hn => ?_⟩
      · rw [f_6.1 c k (by omega), e_5, up2_ne (by omega), f_2.1 c k (by omega)]
      · rw [f_6.2 c k hn, f_2.2 c k]
theorem fr_H_X12_boat_25 (N : Nat) : ∀ (n : Nat) (σ : gI) (τ : gJ) (x1 : Int32) (x2 : Int32) (x3 : Int32) (x4 : Int32) (r : Int32) (σ1 : gI) (τ1 : gJ), H_X12_boat_25 N n σ τ x1 x2 x3 x4 = some (r, σ1, τ1) → (∀ c k : Nat, ¬ (c = 218 ∨ c = 224 ∨ (c = 199 ∧ (k = 0 ∨ k = 1 ∨ k = 34 ∨ k = 45 ∨ k = 46))) → σ1 c k = σ c k) ∧ (∀ c k : Nat, c ≠ 200 → τ1 c k = τ c k) := by
  intro n
  induction n with
  | zero => intro σ τ x1 x2 x3 x4 r σ1 τ1 h; cases h
  | succ n ih =>
    intro σ τ x1 x2 x3 x4 r σ1 τ1 h
    exact fr_C_X12_boat_25 N (H_X12_boat_25 N n) ih σ τ x1 x2 x3 x4 h
set_option maxHeartbeats 2000000 in
theorem fr_B_X12_boat_0 (N : Nat) (σ : gI) (τ : gJ) (x1 : Int32) (x2 : Int32) (x3 : Int32) {r : Int32} {σ1 : gI} {τ1 : gJ} (h : B_X12_boat_0 N σ τ x1 x2 x3 = some (r, σ1, τ1)) : (∀ c k : Nat, ¬ (c = 218 ∨ c = 224 ∨ (c = 199 ∧ (k = 0 ∨ k = 1 ∨ k = 34 ∨ k = 45 ∨ k = 46))) → σ1 c k = σ c k) ∧ (∀ c k : Nat, c ≠ 200 → τ1 c k = τ c k) := by
  unfold B_X12_boat_0 at h
  obtain ⟨σ_1, e_1, h⟩ := nm_some h
  obtain ⟨r_2, σ_2, τ_2, q_2, h⟩ := bd_some h
  have f_2 := fr_B_X12_canSail_0 N σ_1 τ x1 0 x2 x3 q_2
  by_cases c_1 : r_2 = 0
  · rw [if_pos c_1] at h
    obtain ⟨rfl, rfl, rfl⟩ := sm_inj h
    refine ⟨fun c k hn => ?_, fun c k hn => ?_⟩
    · rw [f_2.1 c k id, e_1, up2_ne (by omega)]
    · rw [f_2.2 c k]
  · rw [if_neg c_1] at h
    obtain ⟨r_4, σ_4, τ_4, q_4, h⟩ := bd_some h
    have f_4 := fr_B_X12_thinksNow_0 N σ_2 τ_2 q_4
    have f9 := fr_H_X12_boat_25 N N σ_4 τ_4 x1 x2 x3 0 _ _ _ h
    refine ⟨fun c k hn => (f9.1 c k hn).trans ?_, fun c k hn => (f9.2 c k hn).trans ?_⟩
    · rw [f_4.1 c k (by omega), f_2.1 c k id, e_1, up2_ne (by omega)]
    · rw [f_4.2 c k, f_2.2 c k]
set_option maxHeartbeats 2000000 in
theorem fr_B_X12_codes_0 (N : Nat) (σ : gI) (τ : gJ) (x1 : Int32) {r : Unit} {σ1 : gI} {τ1 : gJ} (h : B_X12_codes_0 N σ τ x1 = some (r, σ1, τ1)) : (∀ c k : Nat, ¬ (c = 217 ∨ (c = 199 ∧ (k = 29))) → σ1 c k = σ c k) ∧ (∀ c k : Nat, τ1 c k = τ c k) := by
  unfold B_X12_codes_0 at h
  obtain ⟨j_1, -, -, h⟩ := ck_some h
  obtain ⟨σ_2, e_2, h⟩ := nm_some h
  obtain ⟨σ_3, e_3, h⟩ := nm_some h
  obtain ⟨-, rfl, rfl⟩ := sm_inj h
  refine ⟨fun c k hn => ?_, fun c k => ?_⟩
  · rw [e_3, up2_ne (by omega), e_2, up2_ne (by omega)]
  · rfl
set_option maxHeartbeats 2000000 in
theorem fr_C_X12_coins_25 (N : Nat) (rec_25 : gI → gJ → Int32 → Int32 → Int32 → Int32 → Option (Int32 × gI × gJ)) (hrec_25 : ∀ (σ : gI) (τ : gJ) (x1 : Int32) (x2 : Int32) (x3 : Int32) (x4 : Int32) (r : Int32) (σ1 : gI) (τ1 : gJ), rec_25 σ τ x1 x2 x3 x4 = some (r, σ1, τ1) → (∀ c k : Nat, ¬ (c = 218 ∨ c = 224 ∨ (c = 199 ∧ (k = 0 ∨ k = 1 ∨ k = 34 ∨ k = 45 ∨ k = 46))) → σ1 c k = σ c k) ∧ (∀ c k : Nat, c ≠ 200 → τ1 c k = τ c k)) (σ : gI) (τ : gJ) (x1 : Int32) (x2 : Int32) (x3 : Int32) (x4 : Int32) {r : Int32} {σ1 : gI} {τ1 : gJ} (h : C_X12_coins_25 N rec_25 σ τ x1 x2 x3 x4 = some (r, σ1, τ1)) : (∀ c k : Nat, ¬ (c = 218 ∨ c = 224 ∨ (c = 199 ∧ (k = 0 ∨ k = 1 ∨ k = 34 ∨ k = 45 ∨ k = 46))) → σ1 c k = σ c k) ∧ (∀ c k : Nat, c ≠ 200 → τ1 c k = τ c k) := by
  unfold C_X12_coins_25 at h
  by_cases c_1 : 9 < x4
  · rw [if_pos c_1] at h
    obtain ⟨rfl, rfl, rfl⟩ := sm_inj h
    refine ⟨fun c k hn => ?_, fun c k hn => ?_⟩
    · rfl
    · rfl
  · rw [if_neg c_1] at h
    obtain ⟨r_2, σ_2, τ_2, q_2, h⟩ := bd_some h
    have f_2 := fr_B_X12_sails_0 N σ τ x1 x2 x4 0 x3 q_2
    by_cases c_2 : r_2 < 0
    · rw [if_pos c_2] at h
      obtain ⟨v_4, e_4, h⟩ := nm_some h
      have f9 := hrec_25 σ_2 τ_2 x1 x2 x3 v_4 _ _ _ h
      refine ⟨fun c k hn => (f9.1 c k hn).trans ?_, fun c k hn => (f9.2 c k hn).trans ?_⟩
      · rw [f_2.1 c k (by omega)]
      · rw [f_2.2 c k]
    · rw [if_neg c_2] at h
      obtain ⟨σ_5, e_5, h⟩ := nm_some h
      obtain ⟨r_6, σ_6, τ_6, q_6, h⟩ := bd_some h
      have f_6 := fr_B_X12_enters_0 N σ_5 τ_2 r_2.toInt64 q_6
      obtain ⟨rfl, rfl, rfl⟩ := sm_inj h
      refine ⟨fun c k hn => ?_, fun c k hn => ?_⟩
      · rw [f_6.1 c k (by omega), e_5, up2_ne (by omega), f_2.1 c k (by omega)]
      · rw [f_6.2 c k hn, f_2.2 c k]
theorem fr_H_X12_coins_25 (N : Nat) : ∀ (n : Nat) (σ : gI) (τ : gJ) (x1 : Int32) (x2 : Int32) (x3 : Int32) (x4 : Int32) (r : Int32) (σ1 : gI) (τ1 : gJ), H_X12_coins_25 N n σ τ x1 x2 x3 x4 = some (r, σ1, τ1) → (∀ c k : Nat, ¬ (c = 218 ∨ c = 224 ∨ (c = 199 ∧ (k = 0 ∨ k = 1 ∨ k = 34 ∨ k = 45 ∨ k = 46))) → σ1 c k = σ c k) ∧ (∀ c k : Nat, c ≠ 200 → τ1 c k = τ c k) := by
  intro n
  induction n with
  | zero => intro σ τ x1 x2 x3 x4 r σ1 τ1 h; cases h
  | succ n ih =>
    intro σ τ x1 x2 x3 x4 r σ1 τ1 h
    exact fr_C_X12_coins_25 N (H_X12_coins_25 N n) ih σ τ x1 x2 x3 x4 h
set_option maxHeartbeats 2000000 in
theorem fr_B_X12_coins_0 (N : Nat) (σ : gI) (τ : gJ) (x1 : Int32) (x2 : Int32) (x3 : Int32) {r : Int32} {σ1 : gI} {τ1 : gJ} (h : B_X12_coins_0 N σ τ x1 x2 x3 = some (r, σ1, τ1)) : (∀ c k : Nat, ¬ (c = 218 ∨ c = 224 ∨ (c = 199 ∧ (k = 0 ∨ k = 1 ∨ k = 34 ∨ k = 45 ∨ k = 46))) → σ1 c k = σ c k) ∧ (∀ c k : Nat, c ≠ 200 → τ1 c k = τ c k) := by
  unfold B_X12_coins_0 at h
  obtain ⟨σ_1, e_1, h⟩ := nm_some h
  obtain ⟨r_2, σ_2, τ_2, q_2, h⟩ := bd_some h
  have f_2 := fr_B_X12_canSail_0 N σ_1 τ x1 x2 0 x3 q_2
  by_cases c_1 : r_2 = 0
  · rw [if_pos c_1] at h
    obtain ⟨rfl, rfl, rfl⟩ := sm_inj h
    refine ⟨fun c k hn => ?_, fun c k hn => ?_⟩
    · rw [f_2.1 c k id, e_1, up2_ne (by omega)]
    · rw [f_2.2 c k]
  · rw [if_neg c_1] at h
    obtain ⟨r_4, σ_4, τ_4, q_4, h⟩ := bd_some h
    have f_4 := fr_B_X12_thinksNow_0 N σ_2 τ_2 q_4
    have f9 := fr_H_X12_coins_25 N N σ_4 τ_4 x1 x2 x3 0 _ _ _ h
    refine ⟨fun c k hn => (f9.1 c k hn).trans ?_, fun c k hn => (f9.2 c k hn).trans ?_⟩
    · rw [f_4.1 c k (by omega), f_2.1 c k id, e_1, up2_ne (by omega)]
    · rw [f_4.2 c k, f_2.2 c k]
set_option maxHeartbeats 2000000 in
theorem fr_B_X12_isThing_0 (N : Nat) (σ : gI) (τ : gJ) (x1 : Int32) {r : Int32} {σ1 : gI} {τ1 : gJ} (h : B_X12_isThing_0 N σ τ x1 = some (r, σ1, τ1)) : (∀ c k : Nat, ¬ (False) → σ1 c k = σ c k) ∧ (∀ c k : Nat, τ1 c k = τ c k) := by
  unfold B_X12_isThing_0 at h
  obtain ⟨r_1, σ_1, τ_1, q_1, h⟩ := bd_some h
  have f_1 := fr_B_X12_in_0 N σ τ x1.toInt64 0 (((σ 206 44) - 1).toInt64) q_1
  obtain ⟨-, h⟩ := cb_some h
  obtain ⟨rfl, rfl, rfl⟩ := sm_inj h
  refine ⟨fun c k hn => ?_, fun c k => ?_⟩
  · rw [f_1.1 c k id]
  · rw [f_1.2 c k]
set_option maxHeartbeats 2000000 in
theorem fr_C_X12_puts_2 (N : Nat) (rec_2 : gI → gJ → Int32 → Option (Unit × gI × gJ)) (hrec_2 : ∀ (σ : gI) (τ : gJ) (x2 : Int32) (r : Unit) (σ1 : gI) (τ1 : gJ), rec_2 σ τ x2 = some (r, σ1, τ1) → (∀ c k : Nat, ¬ (c = 207) → σ1 c k = σ c k) ∧ (∀ c k : Nat, τ1 c k = τ c k)) (σ : gI) (τ : gJ) (x2 : Int32) {r : Unit} {σ1 : gI} {τ1 : gJ} (h : C_X12_puts_2 N rec_2 σ τ x2 = some (r, σ1, τ1)) : (∀ c k : Nat, ¬ (c = 207) → σ1 c k = σ c k) ∧ (∀ c k : Nat, τ1 c k = τ c k) := by
  unfold C_X12_puts_2 at h
  by_cases c_1 : 45 ≤ x2
  · rw [if_pos c_1] at h
    obtain ⟨-, rfl, rfl⟩ := sm_inj h
    refine ⟨fun c k hn => ?_, fun c k => ?_⟩
    · rfl
    · rfl
  · rw [if_neg c_1] at h
    obtain ⟨j_2, -, -, h⟩ := ck_some h
    obtain ⟨σ_3, e_3, h⟩ := nm_some h
    obtain ⟨v_4, e_4, h⟩ := nm_some h
    have f9 := hrec_2 σ_3 τ v_4 _ _ _ h
    refine ⟨fun c k hn => (f9.1 c k hn).trans ?_, fun c k => (f9.2 c k).trans ?_⟩
    · rw [e_3, up2_ne (by omega)]
    · rfl
theorem fr_H_X12_puts_2 (N : Nat) : ∀ (n : Nat) (σ : gI) (τ : gJ) (x2 : Int32) (r : Unit) (σ1 : gI) (τ1 : gJ), H_X12_puts_2 N n σ τ x2 = some (r, σ1, τ1) → (∀ c k : Nat, ¬ (c = 207) → σ1 c k = σ c k) ∧ (∀ c k : Nat, τ1 c k = τ c k) := by
  intro n
  induction n with
  | zero => intro σ τ x2 r σ1 τ1 h; cases h
  | succ n ih =>
    intro σ τ x2 r σ1 τ1 h
    exact fr_C_X12_puts_2 N (H_X12_puts_2 N n) ih σ τ x2 h
set_option maxHeartbeats 2000000 in
theorem fr_B_X12_puts_0 (N : Nat) (σ : gI) (τ : gJ) {r : Unit} {σ1 : gI} {τ1 : gJ} (h : B_X12_puts_0 N σ τ = some (r, σ1, τ1)) : (∀ c k : Nat, ¬ (c = 207) → σ1 c k = σ c k) ∧ (∀ c k : Nat, τ1 c k = τ c k) := by
  unfold B_X12_puts_0 at h
  have f9 := fr_H_X12_puts_2 N N σ τ 0 _ _ _ h
  refine ⟨fun c k hn => (f9.1 c k hn).trans ?_, fun c k => (f9.2 c k).trans ?_⟩
  · rfl
  · rfl
set_option maxHeartbeats 2000000 in
theorem fr_B_X12_comes_0 (N : Nat) (σ : gI) (τ : gJ) (x1 : Int32) {r : Int32} {σ1 : gI} {τ1 : gJ} (h : B_X12_comes_0 N σ τ x1 = some (r, σ1, τ1)) : (∀ c k : Nat, ¬ (c = 207 ∨ c = 218 ∨ (c = 199 ∧ (k = 0 ∨ k = 1 ∨ k = 34))) → σ1 c k = σ c k) ∧ (∀ c k : Nat, c ≠ 200 → τ1 c k = τ c k) := by
  unfold B_X12_comes_0 at h
  obtain ⟨σ_1, e_1, h⟩ := nm_some h
  obtain ⟨r_2, σ_2, τ_2, q_2, h⟩ := bd_some h
  have f_2 := fr_B_X12_isThing_0 N σ_1 τ x1 q_2
  by_cases c_1 : r_2 = 0
  · rw [if_pos c_1] at h
    obtain ⟨rfl, rfl, rfl⟩ := sm_inj h
    refine ⟨fun c k hn => ?_, fun c k hn => ?_⟩
    · rw [f_2.1 c k id, e_1, up2_ne (by omega)]
    · rw [f_2.2 c k]
  · rw [if_neg c_1] at h
    obtain ⟨r_4, σ_4, τ_4, q_4, h⟩ := bd_some h
    have f_4 := fr_B_X12_puts_0 N σ_2 τ_2 q_4
    obtain ⟨r_5, σ_5, τ_5, q_5, h⟩ := bd_some h
    have f_5 := fr_B_X12_endsAfter_0 N 207 σ_4 τ_4 x1 0 q_5
    obtain ⟨v_6, e_6, h⟩ := nm_some h
    obtain ⟨σ_7, e_7, h⟩ := nm_some h
    obtain ⟨j_8, -, -, h⟩ := ck_some h
    obtain ⟨r_9, σ_9, τ_9, q_9, h⟩ := bd_some h
    have f_9 := fr_B_X12_enters_0 N σ_7 τ_5 ((σ_7 207 j_8).toInt64) q_9
    by_cases c_2 : r_5 < 0
    · rw [if_pos c_2] at h
      by_cases c_3 : 0 ≤ r_5
      · rw [if_pos c_3] at h
        obtain ⟨rfl, rfl, rfl⟩ := sm_inj h
        refine ⟨fun c k hn => ?_, fun c k hn => ?_⟩
        · rw [f_9.1 c k (by omega), e_7, up2_ne (by omega), f_5.1 c k (by omega), f_4.1 c k (by omega), f_2.1 c k id, e_1, up2_ne (by omega)]
        · rw [f_9.2 c k hn, f_5.2 c k, f_4.2 c k, f_2.2 c k]
      · rw [if_neg c_3] at h
        obtain ⟨rfl, rfl, rfl⟩ := sm_inj h
        refine ⟨fun c k hn => ?_, fun c k hn => ?_⟩
        · rw [f_9.1 c k (by omega), e_7, up2_ne (by omega), f_5.1 c k (by omega), f_4.1 c k (by omega), f_2.1 c k id, e_1, up2_ne (by omega)]
        · rw [f_9.2 c k hn, f_5.2 c k, f_4.2 c k, f_2.2 c k]
    · rw [if_neg c_2] at h
      obtain ⟨j_12, -, -, h⟩ := ck_some h
      by_cases c_4 : σ_9 207 j_12 = 2
      · rw [if_pos c_4] at h
        by_cases c_5 : 0 ≤ r_5
        · rw [if_pos c_5] at h
          obtain ⟨rfl, rfl, rfl⟩ := sm_inj h
          refine ⟨fun c k hn => ?_, fun c k hn => ?_⟩
          · rw [f_9.1 c k (by omega), e_7, up2_ne (by omega), f_5.1 c k (by omega), f_4.1 c k (by omega), f_2.1 c k id, e_1, up2_ne (by omega)]
          · rw [f_9.2 c k hn, f_5.2 c k, f_4.2 c k, f_2.2 c k]
        · rw [if_neg c_5] at h
          obtain ⟨rfl, rfl, rfl⟩ := sm_inj h
          refine ⟨fun c k hn => ?_, fun c k hn => ?_⟩
          · rw [f_9.1 c k (by omega), e_7, up2_ne (by omega), f_5.1 c k (by omega), f_4.1 c k (by omega), f_2.1 c k id, e_1, up2_ne (by omega)]
          · rw [f_9.2 c k hn, f_5.2 c k, f_4.2 c k, f_2.2 c k]
      · rw [if_neg c_4] at h
        obtain ⟨j_14, -, -, h⟩ := ck_some h
        obtain ⟨r_15, σ_15, τ_15, q_15, h⟩ := bd_some h
        have f_15 := fr_B_X12_enters_0 N σ_9 τ_9 ((σ_9 207 j_14).toInt64) q_15
        obtain ⟨rfl, rfl, rfl⟩ := sm_inj h
        refine ⟨fun c k hn => ?_, fun c k hn => ?_⟩
        · rw [f_15.1 c k (by omega), f_9.1 c k (by omega), e_7, up2_ne (by omega), f_5.1 c k (by omega), f_4.1 c k (by omega), f_2.1 c k id, e_1, up2_ne (by omega)]
        · rw [f_15.2 c k hn, f_9.2 c k hn, f_5.2 c k, f_4.2 c k, f_2.2 c k]
set_option maxHeartbeats 2000000 in
theorem fr_B_X12_comesNow_0 (N : Nat) (σ : gI) (τ : gJ) (x1 : Int32) (x2 : Int32) (x3 : Int32) (x4 : Int32) {r : Int32} {σ1 : gI} {τ1 : gJ} (h : B_X12_comesNow_0 N σ τ x1 x2 x3 x4 = some (r, σ1, τ1)) : (∀ c k : Nat, ¬ (c = 206) → σ1 c k = σ c k) ∧ (∀ c k : Nat, τ1 c k = τ c k) := by
  unfold B_X12_comesNow_0 at h
  obtain ⟨r_1, σ_1, τ_1, q_1, h⟩ := bd_some h
  have f_1 := fr_B_X12_canPut_0 N σ τ x1 x2 x3 q_1
  by_cases c_1 : r_1 = 0
  · rw [if_pos c_1] at h
    obtain ⟨rfl, rfl, rfl⟩ := sm_inj h
    refine ⟨fun c k hn => ?_, fun c k => ?_⟩
    · rw [f_1.1 c k id]
    · rw [f_1.2 c k]
  · rw [if_neg c_1] at h
    obtain ⟨r_3, σ_3, τ_3, q_3, h⟩ := bd_some h
    have f_3 := fr_B_X12_in_0 N σ_1 τ_1 x4.toInt64 0 99 q_3
    by_cases c_2 : r_3 = 0
    · rw [if_pos c_2] at h
      obtain ⟨rfl, rfl, rfl⟩ := sm_inj h
      refine ⟨fun c k hn => ?_, fun c k => ?_⟩
      · rw [f_3.1 c k id, f_1.1 c k id]
      · rw [f_3.2 c k, f_1.2 c k]
    · rw [if_neg c_2] at h
      by_cases c_3 : σ_3 206 44 = 6
      · rw [if_pos c_3] at h
        obtain ⟨rfl, rfl, rfl⟩ := sm_inj h
        refine ⟨fun c k hn => ?_, fun c k => ?_⟩
        · rw [f_3.1 c k id, f_1.1 c k id]
        · rw [f_3.2 c k, f_1.2 c k]
      · rw [if_neg c_3] at h
        obtain ⟨r_6, σ_6, τ_6, q_6, h⟩ := bd_some h
        have f_6 := fr_B_X12_lays_0 N 206 σ_3 τ_3 (σ_3 206 44) x1 x2 x3 x4 q_6
        obtain ⟨σ_7, e_7, h⟩ := nm_some h
        obtain ⟨rfl, rfl, rfl⟩ := sm_inj h
        refine ⟨fun c k hn => ?_, fun c k => ?_⟩
        · rw [e_7, up2_ne (by omega), f_6.1 c k (by omega), f_3.1 c k id, f_1.1 c k id]
        · rw [f_6.2 c k, f_3.2 c k, f_1.2 c k]
set_option maxHeartbeats 2000000 in
theorem fr_B_X12_common_0 (N : Nat) (me_common : gI → gJ → Int64 → Int64 → Option (Int64 × gI × gJ)) (hme_common : ∀ (σ : gI) (τ : gJ) (x0 : Int64) (x2 : Int64) (r : Int64) (σ1 : gI) (τ1 : gJ), me_common σ τ x0 x2 = some (r, σ1, τ1) → (∀ c k : Nat, ¬ (False) → σ1 c k = σ c k) ∧ (∀ c k : Nat, τ1 c k = τ c k)) (σ : gI) (τ : gJ) (x0 : Int64) (x2 : Int64) {r : Int64} {σ1 : gI} {τ1 : gJ} (h : B_X12_common_0 me_common N σ τ x0 x2 = some (r, σ1, τ1)) : (∀ c k : Nat, ¬ (False) → σ1 c k = σ c k) ∧ (∀ c k : Nat, τ1 c k = τ c k) := by
  unfold B_X12_common_0 at h
  by_cases c_1 : lg_cmp x2 0 = 0
  · rw [if_pos c_1] at h
    obtain ⟨rfl, rfl, rfl⟩ := sm_inj h
    refine ⟨fun c k hn => ?_, fun c k => ?_⟩
    · rfl
    · rfl
  · rw [if_neg c_1] at h
    obtain ⟨-, h⟩ := dzl_some h
    obtain ⟨r_3, σ_3, τ_3, q_3, h⟩ := bd_some h
    have f_3 := hme_common σ τ x2 (x0 - x0 / x2 * x2) _ _ _ q_3
    obtain ⟨rfl, rfl, rfl⟩ := sm_inj h
    refine ⟨fun c k hn => ?_, fun c k => ?_⟩
    · rw [f_3.1 c k id]
    · rw [f_3.2 c k]
theorem fr_R_X12_common (N : Nat) : ∀ D : Nat, (∀ (σ : gI) (τ : gJ) (x0 : Int64) (x2 : Int64) (r : Int64) (σ1 : gI) (τ1 : gJ), (R_X12_common N D) σ τ x0 x2 = some (r, σ1, τ1) → (∀ c k : Nat, ¬ (False) → σ1 c k = σ c k) ∧ (∀ c k : Nat, τ1 c k = τ c k)) := by
  intro D
  induction D with
  | zero => exact fun σ τ x0 x2 r σ1 τ1 h => (by cases h)
  | succ D ih => exact fun σ τ x0 x2 r σ1 τ1 h => fr_B_X12_common_0 N ((R_X12_common N D)) (ih) σ τ x0 x2 h
set_option maxHeartbeats 2000000 in
theorem fr_B_X12_cork_38 (N : Nat) (σ : gI) (τ : gJ) (x1 : Int32) (x2 : Int32) (x3 : Int32) {r : Int32} {σ1 : gI} {τ1 : gJ} (h : B_X12_cork_38 N σ τ x1 x2 x3 = some (r, σ1, τ1)) : (∀ c k : Nat, ¬ (c = 226 ∨ c = 227 ∨ c = 228 ∨ (c = 199 ∧ (k = 0 ∨ k = 52))) → σ1 c k = σ c k) ∧ (∀ c k : Nat, τ1 c k = τ c k) := by
  unfold B_X12_cork_38 at h
  by_cases c_1 : σ 199 52 = 10
  · rw [if_pos c_1] at h
    obtain ⟨rfl, rfl, rfl⟩ := sm_inj h
    refine ⟨fun c k hn => ?_, fun c k => ?_⟩
    · rfl
    · rfl
  · rw [if_neg c_1] at h
    obtain ⟨j_2, -, -, h⟩ := ck_some h
    obtain ⟨σ_3, e_3, h⟩ := nm_some h
    obtain ⟨j_4, -, -, h⟩ := ck_some h
    obtain ⟨σ_5, e_5, h⟩ := nm_some h
    obtain ⟨j_6, -, -, h⟩ := ck_some h
    obtain ⟨σ_7, e_7, h⟩ := nm_some h
    obtain ⟨σ_8, e_8, h⟩ := nm_some h
    obtain ⟨rfl, rfl, rfl⟩ := sm_inj h
    refine ⟨fun c k hn => ?_, fun c k => ?_⟩
    · rw [e_8, up2_ne (by omega), e_7, up2_ne (by omega), e_5, up2_ne (by omega), e_3, up2_ne (by omega)]
    · rfl
set_option maxHeartbeats 2000000 in
theorem fr_B_X12_cork_0 (N : Nat) (σ : gI) (τ : gJ) (x1 : Int32) (x2 : Int32) (x3 : Int32) {r : Int32} {σ1 : gI} {τ1 : gJ} (h : B_X12_cork_0 N σ τ x1 x2 x3 = some (r, σ1, τ1)) : (∀ c k : Nat, ¬ (c = 226 ∨ c = 227 ∨ c = 228 ∨ (c = 199 ∧ (k = 0 ∨ k = 52))) → σ1 c k = σ c k) ∧ (∀ c k : Nat, τ1 c k = τ c k) := by
  unfold B_X12_cork_0 at h
  obtain ⟨σ_1, e_1, h⟩ := nm_some h
  obtain ⟨r_2, σ_2, τ_2, q_2, h⟩ := bd_some h
  have f_2 := fr_B_X12_isPlace_0 N σ_1 τ x1 q_2
  by_cases c_1 : r_2 = 0
  · rw [if_pos c_1] at h
    obtain ⟨rfl, rfl, rfl⟩ := sm_inj h
    refine ⟨fun c k hn => ?_, fun c k => ?_⟩
    · rw [f_2.1 c k id, e_1, up2_ne (by omega)]
    · rw [f_2.2 c k]
  · rw [if_neg c_1] at h
    obtain ⟨r_4, σ_4, τ_4, q_4, h⟩ := bd_some h
    have f_4 := fr_B_X12_in_0 N σ_2 τ_2 x2.toInt64 0 999 q_4
    by_cases c_2 : r_4 = 0
    · rw [if_pos c_2] at h
      obtain ⟨rfl, rfl, rfl⟩ := sm_inj h
      refine ⟨fun c k hn => ?_, fun c k => ?_⟩
      · rw [f_4.1 c k id, f_2.1 c k id, e_1, up2_ne (by omega)]
      · rw [f_4.2 c k, f_2.2 c k]
    · rw [if_neg c_2] at h
      by_cases c_3 : x3 = (-1)
      · rw [if_pos c_3] at h
        have f9 := fr_B_X12_cork_38 N σ_4 τ_4 x1 x2 x3 h
        refine ⟨fun c k hn => (f9.1 c k hn).trans ?_, fun c k => (f9.2 c k).trans ?_⟩
        · rw [f_4.1 c k id, f_2.1 c k id, e_1, up2_ne (by omega)]
        · rw [f_4.2 c k, f_2.2 c k]
      · rw [if_neg c_3] at h
        obtain ⟨r_7, σ_7, τ_7, q_7, h⟩ := bd_some h
        have f_7 := fr_B_X12_isKitchen_0 N σ_4 τ_4 x3 q_7
        by_cases c_4 : r_7 = 0
        · rw [if_pos c_4] at h
          obtain ⟨rfl, rfl, rfl⟩ := sm_inj h
          refine ⟨fun c k hn => ?_, fun c k => ?_⟩
          · rw [f_7.1 c k id, f_4.1 c k id, f_2.1 c k id, e_1, up2_ne (by omega)]
          · rw [f_7.2 c k, f_4.2 c k, f_2.2 c k]
        · rw [if_neg c_4] at h
          have f9 := fr_B_X12_cork_38 N σ_7 τ_7 x1 x2 x3 h
          refine ⟨fun c k hn => (f9.1 c k hn).trans ?_, fun c k => (f9.2 c k).trans ?_⟩
          · rw [f_7.1 c k id, f_4.1 c k id, f_2.1 c k id, e_1, up2_ne (by omega)]
          · rw [f_7.2 c k, f_4.2 c k, f_2.2 c k]
set_option maxHeartbeats 2000000 in
theorem fr_C_X12_forks_4 (N : Nat) (rec_4 : gI → gJ → Int32 → Int32 → Option (Int32 × gI × gJ)) (hrec_4 : ∀ (σ : gI) (τ : gJ) (x1 : Int32) (x2 : Int32) (r : Int32) (σ1 : gI) (τ1 : gJ), rec_4 σ τ x1 x2 = some (r, σ1, τ1) → (∀ c k : Nat, ¬ (False) → σ1 c k = σ c k) ∧ (∀ c k : Nat, τ1 c k = τ c k)) (σ : gI) (τ : gJ) (x1 : Int32) (x2 : Int32) {r : Int32} {σ1 : gI} {τ1 : gJ} (h : C_X12_forks_4 N rec_4 σ τ x1 x2 = some (r, σ1, τ1)) : (∀ c k : Nat, ¬ (False) → σ1 c k = σ c k) ∧ (∀ c k : Nat, τ1 c k = τ c k) := by
  unfold C_X12_forks_4 at h
  by_cases c_1 : σ 199 3 ≤ x2
  · rw [if_pos c_1] at h
    obtain ⟨rfl, rfl, rfl⟩ := sm_inj h
    refine ⟨fun c k hn => ?_, fun c k => ?_⟩
    · rfl
    · rfl
  · rw [if_neg c_1] at h
    obtain ⟨j_2, -, -, h⟩ := ck_some h
    by_cases c_2 : σ 201 j_2 = 1
    · rw [if_pos c_2] at h
      obtain ⟨v_6, e_6, h⟩ := nm_some h
      obtain ⟨v_7, e_7, h⟩ := nm_some h
      have f9 := hrec_4 σ τ v_6 v_7 _ _ _ h
      refine ⟨fun c k hn => (f9.1 c k hn).trans ?_, fun c k => (f9.2 c k).trans ?_⟩
      · rfl
      · rfl
    · rw [if_neg c_2] at h
      obtain ⟨v_4, e_4, h⟩ := nm_some h
      obtain ⟨v_5, e_5, h⟩ := nm_some h
      have f9 := hrec_4 σ τ v_4 v_5 _ _ _ h
      refine ⟨fun c k hn => (f9.1 c k hn).trans ?_, fun c k => (f9.2 c k).trans ?_⟩
      · rfl
      · rfl
theorem fr_H_X12_forks_4 (N : Nat) : ∀ (n : Nat) (σ : gI) (τ : gJ) (x1 : Int32) (x2 : Int32) (r : Int32) (σ1 : gI) (τ1 : gJ), H_X12_forks_4 N n σ τ x1 x2 = some (r, σ1, τ1) → (∀ c k : Nat, ¬ (False) → σ1 c k = σ c k) ∧ (∀ c k : Nat, τ1 c k = τ c k) := by
  intro n
  induction n with
  | zero => intro σ τ x1 x2 r σ1 τ1 h; cases h
  | succ n ih =>
    intro σ τ x1 x2 r σ1 τ1 h
    exact fr_C_X12_forks_4 N (H_X12_forks_4 N n) ih σ τ x1 x2 h
set_option maxHeartbeats 2000000 in
theorem fr_B_X12_forks_0 (N : Nat) (σ : gI) (τ : gJ) {r : Int32} {σ1 : gI} {τ1 : gJ} (h : B_X12_forks_0 N σ τ = some (r, σ1, τ1)) : (∀ c k : Nat, ¬ (False) → σ1 c k = σ c k) ∧ (∀ c k : Nat, τ1 c k = τ c k) := by
  unfold B_X12_forks_0 at h
  have f9 := fr_H_X12_forks_4 N N σ τ 0 0 _ _ _ h
  refine ⟨fun c k hn => (f9.1 c k hn).trans ?_, fun c k => (f9.2 c k).trans ?_⟩
  · rfl
  · rfl
set_option maxHeartbeats 2000000 in
theorem fr_C_X12_thoseHow_4 (N : Nat) (q : Nat) (rec_4 : gI → gJ → Int32 → Int32 → Int32 → Option (Int32 × gI × gJ)) (hrec_4 : ∀ (σ : gI) (τ : gJ) (x1 : Int32) (x2 : Int32) (x3 : Int32) (r : Int32) (σ1 : gI) (τ1 : gJ), rec_4 σ τ x1 x2 x3 = some (r, σ1, τ1) → (∀ c k : Nat, ¬ (False) → σ1 c k = σ c k) ∧ (∀ c k : Nat, τ1 c k = τ c k)) (σ : gI) (τ : gJ) (x1 : Int32) (x2 : Int32) (x3 : Int32) {r : Int32} {σ1 : gI} {τ1 : gJ} (h : C_X12_thoseHow_4 N q rec_4 σ τ x1 x2 x3 = some (r, σ1, τ1)) : (∀ c k : Nat, ¬ (False) → σ1 c k = σ c k) ∧ (∀ c k : Nat, τ1 c k = τ c k) := by
  unfold C_X12_thoseHow_4 at h
  by_cases c_1 : σ q 44 ≤ x3
  · rw [if_pos c_1] at h
    obtain ⟨rfl, rfl, rfl⟩ := sm_inj h
    refine ⟨fun c k hn => ?_, fun c k => ?_⟩
    · rfl
    · rfl
  · rw [if_neg c_1] at h
    obtain ⟨j_2, -, -, h⟩ := ck_some h
    by_cases c_2 : σ q j_2 = x1
    · rw [if_pos c_2] at h
      obtain ⟨v_6, e_6, h⟩ := nm_some h
      obtain ⟨v_7, e_7, h⟩ := nm_some h
      have f9 := hrec_4 σ τ x1 v_6 v_7 _ _ _ h
      refine ⟨fun c k hn => (f9.1 c k hn).trans ?_, fun c k => (f9.2 c k).trans ?_⟩
      · rfl
      · rfl
    · rw [if_neg c_2] at h
      obtain ⟨v_4, e_4, h⟩ := nm_some h
      obtain ⟨v_5, e_5, h⟩ := nm_some h
      have f9 := hrec_4 σ τ x1 v_4 v_5 _ _ _ h
      refine ⟨fun c k hn => (f9.1 c k hn).trans ?_, fun c k => (f9.2 c k).trans ?_⟩
      · rfl
      · rfl
theorem fr_H_X12_thoseHow_4 (N : Nat) (q : Nat) : ∀ (n : Nat) (σ : gI) (τ : gJ) (x1 : Int32) (x2 : Int32) (x3 : Int32) (r : Int32) (σ1 : gI) (τ1 : gJ), H_X12_thoseHow_4 N q n σ τ x1 x2 x3 = some (r, σ1, τ1) → (∀ c k : Nat, ¬ (False) → σ1 c k = σ c k) ∧ (∀ c k : Nat, τ1 c k = τ c k) := by
  intro n
  induction n with
  | zero => intro σ τ x1 x2 x3 r σ1 τ1 h; cases h
  | succ n ih =>
    intro σ τ x1 x2 x3 r σ1 τ1 h
    exact fr_C_X12_thoseHow_4 N q (H_X12_thoseHow_4 N q n) ih σ τ x1 x2 x3 h
set_option maxHeartbeats 2000000 in
theorem fr_B_X12_thoseHow_0 (N : Nat) (q : Nat) (σ : gI) (τ : gJ) (x1 : Int32) {r : Int32} {σ1 : gI} {τ1 : gJ} (h : B_X12_thoseHow_0 N q σ τ x1 = some (r, σ1, τ1)) : (∀ c k : Nat, ¬ (False) → σ1 c k = σ c k) ∧ (∀ c k : Nat, τ1 c k = τ c k) := by
  unfold B_X12_thoseHow_0 at h
  have f9 := fr_H_X12_thoseHow_4 N q N σ τ x1 0 0 _ _ _ h
  refine ⟨fun c k hn => (f9.1 c k hn).trans ?_, fun c k => (f9.2 c k).trans ?_⟩
  · rfl
  · rfl
set_option maxHeartbeats 2000000 in
theorem fr_B_X12_count_0 (N : Nat) (σ : gI) (τ : gJ) (x1 : Int32) {r : Int32} {σ1 : gI} {τ1 : gJ} (h : B_X12_count_0 N σ τ x1 = some (r, σ1, τ1)) : (∀ c k : Nat, ¬ ((c = 199 ∧ (k = 0))) → σ1 c k = σ c k) ∧ (∀ c k : Nat, τ1 c k = τ c k) := by
  unfold B_X12_count_0 at h
  obtain ⟨σ_1, e_1, h⟩ := nm_some h
  by_cases c_1 : x1 = 0
  · rw [if_pos c_1] at h
    obtain ⟨rfl, rfl, rfl⟩ := sm_inj h
    refine ⟨fun c k hn => ?_, fun c k => ?_⟩
    · rw [e_1, up2_ne (by omega)]
    · rfl
  · rw [if_neg c_1] at h
    by_cases c_2 : x1 = 1
    · rw [if_pos c_2] at h
      obtain ⟨rfl, rfl, rfl⟩ := sm_inj h
      refine ⟨fun c k hn => ?_, fun c k => ?_⟩
      · rw [e_1, up2_ne (by omega)]
      · rfl
    · rw [if_neg c_2] at h
      by_cases c_3 : x1 = 2
      · rw [if_pos c_3] at h
        obtain ⟨rfl, rfl, rfl⟩ := sm_inj h
        refine ⟨fun c k hn => ?_, fun c k => ?_⟩
        · rw [e_1, up2_ne (by omega)]
        · rfl
      · rw [if_neg c_3] at h
        by_cases c_4 : x1 = 3
        · rw [if_pos c_4] at h
          obtain ⟨r_6, σ_6, τ_6, q_6, h⟩ := bd_some h
          have f_6 := fr_B_X12_forks_0 N σ_1 τ q_6
          obtain ⟨rfl, rfl, rfl⟩ := sm_inj h
          refine ⟨fun c k hn => ?_, fun c k => ?_⟩
          · rw [f_6.1 c k id, e_1, up2_ne (by omega)]
          · rw [f_6.2 c k]
        · rw [if_neg c_4] at h
          by_cases c_5 : x1 = 4
          · rw [if_pos c_5] at h
            obtain ⟨rfl, rfl, rfl⟩ := sm_inj h
            refine ⟨fun c k hn => ?_, fun c k => ?_⟩
            · rw [e_1, up2_ne (by omega)]
            · rfl
          · rw [if_neg c_5] at h
            by_cases c_6 : x1 = 5
            · rw [if_pos c_6] at h
              obtain ⟨r_9, σ_9, τ_9, q_9, h⟩ := bd_some h
              have f_9 := fr_B_X12_thoseHow_0 N 206 σ_1 τ 0 q_9
              obtain ⟨rfl, rfl, rfl⟩ := sm_inj h
              refine ⟨fun c k hn => ?_, fun c k => ?_⟩
              · rw [f_9.1 c k id, e_1, up2_ne (by omega)]
              · rw [f_9.2 c k]
            · rw [if_neg c_6] at h
              by_cases c_7 : x1 = 6
              · rw [if_pos c_7] at h
                obtain ⟨r_11, σ_11, τ_11, q_11, h⟩ := bd_some h
                have f_11 := fr_B_X12_thoseHow_0 N 206 σ_1 τ 1 q_11
                obtain ⟨rfl, rfl, rfl⟩ := sm_inj h
                refine ⟨fun c k hn => ?_, fun c k => ?_⟩
                · rw [f_11.1 c k id, e_1, up2_ne (by omega)]
                · rw [f_11.2 c k]
              · rw [if_neg c_7] at h
                by_cases c_8 : x1 = 7
                · rw [if_pos c_8] at h
                  obtain ⟨r_13, σ_13, τ_13, q_13, h⟩ := bd_some h
                  have f_13 := fr_B_X12_thoseHow_0 N 206 σ_1 τ 2 q_13
                  obtain ⟨rfl, rfl, rfl⟩ := sm_inj h
                  refine ⟨fun c k hn => ?_, fun c k => ?_⟩
                  · rw [f_13.1 c k id, e_1, up2_ne (by omega)]
                  · rw [f_13.2 c k]
                · rw [if_neg c_8] at h
                  by_cases c_9 : x1 = 8
                  · rw [if_pos c_9] at h
                    obtain ⟨rfl, rfl, rfl⟩ := sm_inj h
                    refine ⟨fun c k hn => ?_, fun c k => ?_⟩
                    · rw [e_1, up2_ne (by omega)]
                    · rfl
                  · rw [if_neg c_9] at h
                    by_cases c_10 : x1 = 9
                    · rw [if_pos c_10] at h
                      obtain ⟨rfl, rfl, rfl⟩ := sm_inj h
                      refine ⟨fun c k hn => ?_, fun c k => ?_⟩
                      · rw [e_1, up2_ne (by omega)]
                      · rfl
                    · rw [if_neg c_10] at h
                      by_cases c_11 : x1 = 10
                      · rw [if_pos c_11] at h
                        obtain ⟨rfl, rfl, rfl⟩ := sm_inj h
                        refine ⟨fun c k hn => ?_, fun c k => ?_⟩
                        · rw [e_1, up2_ne (by omega)]
                        · rfl
                      · rw [if_neg c_11] at h
                        by_cases c_12 : x1 = 11
                        · rw [if_pos c_12] at h
                          obtain ⟨rfl, rfl, rfl⟩ := sm_inj h
                          refine ⟨fun c k hn => ?_, fun c k => ?_⟩
                          · rw [e_1, up2_ne (by omega)]
                          · rfl
                        · rw [if_neg c_12] at h
                          obtain ⟨rfl, rfl, rfl⟩ := sm_inj h
                          refine ⟨fun c k hn => ?_, fun c k => ?_⟩
                          · rw [e_1, up2_ne (by omega)]
                          · rfl
set_option maxHeartbeats 2000000 in
theorem fr_B_X12_takesOf_0 (N : Nat) (bs : List Int32) (σ : gI) (τ : gJ) {r : Int32} {σ1 : gI} {τ1 : gJ} (h : B_X12_takesOf_0 N bs σ τ = some (r, σ1, τ1)) : (∀ c k : Nat, ¬ ((c = 199 ∧ (k = 14))) → σ1 c k = σ c k) ∧ (∀ c k : Nat, τ1 c k = τ c k) := by
  unfold B_X12_takesOf_0 at h
  obtain ⟨r_1, σ_1, τ_1, q_1, h⟩ := bd_some h
  have f_1 := fr_B_X12_among_0 N bs σ τ q_1
  by_cases c_1 : r_1 < 0
  · rw [if_pos c_1] at h
    obtain ⟨r_3, σ_3, τ_3, q_3, h⟩ := bd_some h
    have f_3 := fr_B_X12_flag_0 N σ_1 τ_1 0 q_3
    obtain ⟨σ_4, e_4, h⟩ := nm_some h
    obtain ⟨rfl, rfl, rfl⟩ := sm_inj h
    refine ⟨fun c k hn => ?_, fun c k => ?_⟩
    · rw [e_4, up2_ne (by omega), f_3.1 c k id, f_1.1 c k id]
    · rw [f_3.2 c k, f_1.2 c k]
  · rw [if_neg c_1] at h
    obtain ⟨r_5, σ_5, τ_5, q_5, h⟩ := bd_some h
    have f_5 := fr_B_X12_flag_0 N σ_1 τ_1 1 q_5
    obtain ⟨σ_6, e_6, h⟩ := nm_some h
    obtain ⟨rfl, rfl, rfl⟩ := sm_inj h
    refine ⟨fun c k hn => ?_, fun c k => ?_⟩
    · rw [e_6, up2_ne (by omega), f_5.1 c k id, f_1.1 c k id]
    · rw [f_5.2 c k, f_1.2 c k]
