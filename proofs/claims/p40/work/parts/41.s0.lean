set_option maxHeartbeats 2000000 in
theorem s_B_X0_add_0 (N : Nat) (hN : 4294967296 ≤ N) (σ : gI) (τ : gJ) (x1 : Int32) (x2 : Int32) (x3 : Int32) (hI : IC σ) : okp (Uq σ τ (fun a => a = 0 ∨ a = 1)) (B_X0_add_0 N σ τ x1 x2 x3) := by
  unfold B_X0_add_0
  refine ok_ite (fun c_1 => ?_) (fun c_1 => ?_)
  · simp only [fa_lt, fa_le, fa_eq] at c_1
    exact ok_r ⟨(Or.inl rfl), (us_rf σ), (kj_rf τ)⟩
  · simp only [fa_lt, fa_le, fa_eq] at c_1
    refine ok_ite (fun c_2 => ?_) (fun c_2 => ?_)
    · simp only [fa_lt, fa_le, fa_eq] at c_2
      refine ok_ck (by have : (0 : Int32).toInt = 0 := rfl; have : (3 : Int32).toInt = 3 := rfl; have : (10 : Int32).toInt = 10 := rfl; have : (152 : Int32).toInt = 152 := rfl; have := i32_rng (σ 152 3); omega) (fun j_3 hj_3 lj_3 => ?_)
      refine ok_nm (fun σ_4 e_4 => ?_)
      have k_4 : US σ σ_4 := us_up (us_rf σ) e_4 (by omega) (by omega) (by omega)
      refine ok_ck (by have : (0 : Int32).toInt = 0 := rfl; have : (3 : Int32).toInt = 3 := rfl; have : (10 : Int32).toInt = 10 := rfl; have : (152 : Int32).toInt = 152 := rfl; have := i32_rng (σ 152 3); have := i32_rng (σ_4 152 3); have : (σ_4 152 3).toInt = (σ 152 3).toInt := (by simp [up2, e_4]); omega) (fun j_5 hj_5 lj_5 => ?_)
      refine ok_nm (fun σ_6 e_6 => ?_)
      have k_6 : US σ σ_6 := us_up k_4 e_6 (by omega) (by omega) (by omega)
      refine ok_ck (by have : (0 : Int32).toInt = 0 := rfl; have : (3 : Int32).toInt = 3 := rfl; have : (10 : Int32).toInt = 10 := rfl; have : (152 : Int32).toInt = 152 := rfl; have := i32_rng (σ 152 3); have := i32_rng (σ_6 152 3); have : (σ_6 152 3).toInt = (σ 152 3).toInt := (by simp [up2, e_6, e_4]); omega) (fun j_7 hj_7 lj_7 => ?_)
      refine ok_nm (fun σ_8 e_8 => ?_)
      have k_8 : US σ σ_8 := us_up k_6 e_8 (by omega) (by omega) (by omega)
      refine ok_nm (fun σ_9 e_9 => ?_)
      have k_9 : US σ σ_9 := us_up k_8 e_9 (by omega) (by omega) (by omega)
      exact ok_r ⟨(Or.inr rfl), k_9, (kj_rf τ)⟩
    · simp only [fa_lt, fa_le, fa_eq] at c_2
      exact ok_r ⟨(Or.inl rfl), (us_rf σ), (kj_rf τ)⟩
set_option maxHeartbeats 2000000 in
theorem s_B_X0_has_0 (N : Nat) (hN : 4294967296 ≤ N) (σ : gI) (τ : gJ) (x1 : Int32) (hI : IC σ) : okp (Kqe σ τ (fun a => (a.toInt = 0 ∨ a.toInt = 1) ∧ (a.toInt = 1 → 0 ≤ x1.toInt ∧ x1.toInt < 10))) (B_X0_has_0 N σ τ x1) := by
  unfold B_X0_has_0
  refine ok_ite (fun c_1 => ?_) (fun c_1 => ?_)
  · simp only [fa_lt, fa_le, fa_eq] at c_1
    exact ok_r ⟨(by have : (0 : Int32).toInt = 0 := rfl; have : (1 : Int32).toInt = 1 := rfl; have : (10 : Int32).toInt = 10 := rfl; have := i32_rng x1; omega), (Eq.refl σ), (Eq.refl τ)⟩
  · simp only [fa_lt, fa_le, fa_eq] at c_1
    refine ok_ite (fun c_2 => ?_) (fun c_2 => ?_)
    · simp only [fa_lt, fa_le, fa_eq] at c_2
      exact ok_r ⟨(by have : (0 : Int32).toInt = 0 := rfl; have : (1 : Int32).toInt = 1 := rfl; have : (3 : Int32).toInt = 3 := rfl; have : (10 : Int32).toInt = 10 := rfl; have : (152 : Int32).toInt = 152 := rfl; have := i32_rng (σ 152 3); have := i32_rng x1; omega), (Eq.refl σ), (Eq.refl τ)⟩
    · simp only [fa_lt, fa_le, fa_eq] at c_2
      refine ok_ite (fun c_3 => ?_) (fun c_3 => ?_)
      · simp only [fa_lt, fa_le, fa_eq] at c_3
        exact ok_r ⟨(by have : (0 : Int32).toInt = 0 := rfl; have : (1 : Int32).toInt = 1 := rfl; have : (3 : Int32).toInt = 3 := rfl; have : (10 : Int32).toInt = 10 := rfl; have : (152 : Int32).toInt = 152 := rfl; have := i32_rng (σ 152 3); have := i32_rng x1; omega), (Eq.refl σ), (Eq.refl τ)⟩
      · simp only [fa_lt, fa_le, fa_eq] at c_3
        exact ok_r ⟨(by have : (0 : Int32).toInt = 0 := rfl; have : (1 : Int32).toInt = 1 := rfl; have : (3 : Int32).toInt = 3 := rfl; have : (10 : Int32).toInt = 10 := rfl; have : (152 : Int32).toInt = 152 := rfl; have := i32_rng (σ 152 3); have := i32_rng x1; omega), (Eq.refl σ), (Eq.refl τ)⟩
set_option maxHeartbeats 2000000 in
theorem s_B_X0_endOf_0 (N : Nat) (hN : 4294967296 ≤ N) (σ : gI) (τ : gJ) (x1 : Int32) (hI : IC σ) : okp (Kqe σ τ (fun _ => True)) (B_X0_endOf_0 N σ τ x1) := by
  unfold B_X0_endOf_0
  refine ok_bd (s_B_X0_has_0 N hN σ τ x1 ((ic_eq (Eq.refl σ)) hI)) (fun r_1 σ_1 τ_1 hp_1 => ?_)
  have k_1 : σ_1 = σ := hp_1.2.1.trans (Eq.refl σ)
  have kj_1 : τ_1 = τ := hp_1.2.2.trans (Eq.refl τ)
  have hb_1 :  (r_1.toInt = 0 ∨ r_1.toInt = 1) ∧ (r_1.toInt = 1 → 0 ≤ x1.toInt ∧ x1.toInt < 10) := hp_1.1
  refine ok_ite (fun c_1 => ?_) (fun c_1 => ?_)
  · simp only [fa_lt, fa_le, fa_eq] at c_1
    exact ok_r ⟨trivial, k_1, kj_1⟩
  · simp only [fa_lt, fa_le, fa_eq] at c_1
    refine ok_ck (by have : (0 : Int32).toInt = 0 := rfl; have : (10 : Int32).toInt = 10 := rfl; have := i32_rng r_1; have := i32_rng x1; omega) (fun j_3 hj_3 lj_3 => ?_)
    exact ok_r ⟨trivial, k_1, kj_1⟩
set_option maxHeartbeats 2000000 in
theorem s_B_X0_minuteOf_0 (N : Nat) (hN : 4294967296 ≤ N) (σ : gI) (τ : gJ) (x1 : Int32) (hI : IC σ) : okp (Kqe σ τ (fun _ => True)) (B_X0_minuteOf_0 N σ τ x1) := by
  unfold B_X0_minuteOf_0
  refine ok_bd (s_B_X0_has_0 N hN σ τ x1 ((ic_eq (Eq.refl σ)) hI)) (fun r_1 σ_1 τ_1 hp_1 => ?_)
  have k_1 : σ_1 = σ := hp_1.2.1.trans (Eq.refl σ)
  have kj_1 : τ_1 = τ := hp_1.2.2.trans (Eq.refl τ)
  have hb_1 :  (r_1.toInt = 0 ∨ r_1.toInt = 1) ∧ (r_1.toInt = 1 → 0 ≤ x1.toInt ∧ x1.toInt < 10) := hp_1.1
  refine ok_ite (fun c_1 => ?_) (fun c_1 => ?_)
  · simp only [fa_lt, fa_le, fa_eq] at c_1
    exact ok_r ⟨trivial, k_1, kj_1⟩
  · simp only [fa_lt, fa_le, fa_eq] at c_1
    refine ok_ck (by have : (0 : Int32).toInt = 0 := rfl; have : (10 : Int32).toInt = 10 := rfl; have := i32_rng r_1; have := i32_rng x1; omega) (fun j_3 hj_3 lj_3 => ?_)
    exact ok_r ⟨trivial, k_1, kj_1⟩
set_option maxHeartbeats 2000000 in
theorem s_B_X0_spotOf_0 (N : Nat) (hN : 4294967296 ≤ N) (σ : gI) (τ : gJ) (x1 : Int32) (hI : IC σ) : okp (Kqe σ τ (fun _ => True)) (B_X0_spotOf_0 N σ τ x1) := by
  unfold B_X0_spotOf_0
  refine ok_bd (s_B_X0_has_0 N hN σ τ x1 ((ic_eq (Eq.refl σ)) hI)) (fun r_1 σ_1 τ_1 hp_1 => ?_)
  have k_1 : σ_1 = σ := hp_1.2.1.trans (Eq.refl σ)
  have kj_1 : τ_1 = τ := hp_1.2.2.trans (Eq.refl τ)
  have hb_1 :  (r_1.toInt = 0 ∨ r_1.toInt = 1) ∧ (r_1.toInt = 1 → 0 ≤ x1.toInt ∧ x1.toInt < 10) := hp_1.1
  refine ok_ite (fun c_1 => ?_) (fun c_1 => ?_)
  · simp only [fa_lt, fa_le, fa_eq] at c_1
    exact ok_r ⟨trivial, k_1, kj_1⟩
  · simp only [fa_lt, fa_le, fa_eq] at c_1
    refine ok_ck (by have : (0 : Int32).toInt = 0 := rfl; have : (10 : Int32).toInt = 10 := rfl; have := i32_rng r_1; have := i32_rng x1; omega) (fun j_3 hj_3 lj_3 => ?_)
    exact ok_r ⟨trivial, k_1, kj_1⟩
set_option maxHeartbeats 2000000 in
theorem s_B_X10_in_0 (N : Nat) (hN : 4294967296 ≤ N) (σ : gI) (τ : gJ) (x1 : Int32) (hI : IC σ) : okp (Kqe σ τ (fun _ => True)) (B_X10_in_0 N σ τ x1) := by
  unfold B_X10_in_0
  refine ok_ite (fun c_1 => ?_) (fun c_1 => ?_)
  · simp only [fa_lt, fa_le, fa_eq] at c_1
    exact ok_r ⟨trivial, (Eq.refl σ), (Eq.refl τ)⟩
  · simp only [fa_lt, fa_le, fa_eq] at c_1
    refine ok_ite (fun c_2 => ?_) (fun c_2 => ?_)
    · simp only [fa_lt, fa_le, fa_eq] at c_2
      exact ok_r ⟨trivial, (Eq.refl σ), (Eq.refl τ)⟩
    · simp only [fa_lt, fa_le, fa_eq] at c_2
      refine ok_ite (fun c_3 => ?_) (fun c_3 => ?_)
      · simp only [fa_lt, fa_le, fa_eq] at c_3
        refine ok_dz (fun h9 => by have h8 := (fa_eq _ _).mp h9; rw [show (0 : Int32).toInt = 0 from rfl] at h8; exact absurd h8 (by have : (0 : Int32).toInt = 0 := rfl; have : (1 : Int32).toInt = 1 := rfl; have : (15 : Int32).toInt = 15 := rfl; have : (40 : Int32).toInt = 40 := rfl; have := i32_rng (σ 15 1); have := i32_rng x1; omega)) ?_
        refine ok_ck (x10_in c_1 c_2 c_3) (fun j_5 hj_5 lj_5 => ?_)
        exact ok_r ⟨trivial, (Eq.refl σ), (Eq.refl τ)⟩
      · simp only [fa_lt, fa_le, fa_eq] at c_3
        exact ok_r ⟨trivial, (Eq.refl σ), (Eq.refl τ)⟩
set_option maxHeartbeats 2000000 in
theorem s_B_X7_showAtMost_0 (N : Nat) (hN : 4294967296 ≤ N) (σ : gI) (τ : gJ) (x1 : Int32) (hI : IC σ) : okp (Kq σ τ (fun _ => True)) (B_X7_showAtMost_0 N σ τ x1) := by
  unfold B_X7_showAtMost_0
  refine ok_nm (fun σ_1 e_1 => ?_)
  have k_1 : KS σ σ_1 := ks_up (ks_rf σ) e_1 (by omega) (by omega) (by omega)
  exact ok_r ⟨trivial, k_1, (kj_rf τ)⟩
set_option maxHeartbeats 2000000 in
theorem s_B_X7_isOver_0 (N : Nat) (hN : 4294967296 ≤ N) (σ : gI) (τ : gJ) (x1 : Int32) (hI : IC σ) : okp (Kqe σ τ (fun a => a = 0 ∨ a = 1)) (B_X7_isOver_0 N σ τ x1) := by
  unfold B_X7_isOver_0
  refine ok_ite (fun c_1 => ?_) (fun c_1 => ?_)
  · simp only [fa_lt, fa_le, fa_eq] at c_1
    exact ok_r ⟨(Or.inl rfl), (Eq.refl σ), (Eq.refl τ)⟩
  · simp only [fa_lt, fa_le, fa_eq] at c_1
    exact ok_r ⟨(Or.inr rfl), (Eq.refl σ), (Eq.refl τ)⟩
set_option maxHeartbeats 2000000 in
theorem s_B_X7_look_0 (N : Nat) (hN : 4294967296 ≤ N) (σ : gI) (τ : gJ) (x1 : Int32) (hI : IC σ) : okp (Kqe σ τ (fun _ => True)) (B_X7_look_0 N σ τ x1) := by
  unfold B_X7_look_0
  refine ok_ite (fun c_1 => ?_) (fun c_1 => ?_)
  · simp only [fa_lt, fa_le, fa_eq] at c_1
    exact ok_r ⟨trivial, (Eq.refl σ), (Eq.refl τ)⟩
  · simp only [fa_lt, fa_le, fa_eq] at c_1
    refine ok_ite (fun c_2 => ?_) (fun c_2 => ?_)
    · simp only [fa_lt, fa_le, fa_eq] at c_2
      exact ok_r ⟨trivial, (Eq.refl σ), (Eq.refl τ)⟩
    · simp only [fa_lt, fa_le, fa_eq] at c_2
      refine ok_ite (fun c_3 => ?_) (fun c_3 => ?_)
      · simp only [fa_lt, fa_le, fa_eq] at c_3
        exact ok_r ⟨trivial, (Eq.refl σ), (Eq.refl τ)⟩
      · simp only [fa_lt, fa_le, fa_eq] at c_3
        refine ok_ck (by have : (0 : Int32).toInt = 0 := rfl; have : (1 : Int32).toInt = 1 := rfl; have : (80 : Int32).toInt = 80 := rfl; have := i32_rng (σ 1 1); have := i32_rng x1; omega) (fun j_4 hj_4 lj_4 => ?_)
        exact ok_r ⟨trivial, (Eq.refl σ), (Eq.refl τ)⟩
set_option maxHeartbeats 2000000 in
theorem s_B_X7_digit_0 (N : Nat) (hN : 4294967296 ≤ N) (σ : gI) (τ : gJ) (x1 : Int32) (hI : IC σ) : okp (Kqe σ τ (fun _ => True)) (B_X7_digit_0 N σ τ x1) := by
  unfold B_X7_digit_0
  refine ok_bd (s_B_X7_look_0 N hN σ τ x1 ((ic_eq (Eq.refl σ)) hI)) (fun r_1 σ_1 τ_1 hp_1 => ?_)
  have k_1 : σ_1 = σ := hp_1.2.1.trans (Eq.refl σ)
  have kj_1 : τ_1 = τ := hp_1.2.2.trans (Eq.refl τ)
  refine ok_ite (fun c_1 => ?_) (fun c_1 => ?_)
  · simp only [fa_lt, fa_le, fa_eq] at c_1
    exact ok_r ⟨trivial, k_1, kj_1⟩
  · simp only [fa_lt, fa_le, fa_eq] at c_1
    refine ok_ite (fun c_2 => ?_) (fun c_2 => ?_)
    · simp only [fa_lt, fa_le, fa_eq] at c_2
      exact ok_r ⟨trivial, k_1, kj_1⟩
    · simp only [fa_lt, fa_le, fa_eq] at c_2
      exact ok_r ⟨trivial, k_1, kj_1⟩
set_option maxHeartbeats 2000000 in
theorem s_C_X10_read_62 (N : Nat) (hN : 4294967296 ≤ N) (rec_62 : gI → gJ → Int32 → Option (Int32 × gI × gJ)) (n_62 : Nat) (hrec_62 : ∀ (σ : gI) (τ : gJ) (x2 : Int32), IC σ → (0 ≤ x2.toInt) → ((σ 15 1).toInt ≤ 40) → (2147483647 - x2.toInt).toNat < n_62 → okp (Vq σ τ (fun _ => True)) (rec_62 σ τ x2)) (σ : gI) (τ : gJ) (x2 : Int32) (hI : IC σ) (h0_62 : 0 ≤ x2.toInt) (hm_62 : (2147483647 - x2.toInt).toNat < n_62 + 1) (hl : (σ 15 1).toInt ≤ 40) : okp (Vq σ τ (fun _ => True)) (C_X10_read_62 N rec_62 σ τ x2) := by
  unfold C_X10_read_62
  refine ok_ite (fun c_1 => ?_) (fun c_1 => ?_)
  · simp only [fa_lt, fa_le, fa_eq] at c_1
    exact ok_r ⟨trivial, (vs_rf σ), (kj_rf τ)⟩
  · simp only [fa_lt, fa_le, fa_eq] at c_1
    refine ok_bd (s_B_X7_digit_0 N hN σ τ x2 ((vs_rf σ).1.2 hI)) (fun r_2 σ_2 τ_2 hp_2 => ?_)
    have k_2 : VS σ σ_2 := vs_eq (vs_rf σ) hp_2.2.1
    have kj_2 : KJ τ τ_2 := kj_eq (kj_rf τ) hp_2.2.2
    refine ok_ck (by have : (0 : Int32).toInt = 0 := rfl; have : (1 : Int32).toInt = 1 := rfl; have : (15 : Int32).toInt = 15 := rfl; have : (40 : Int32).toInt = 40 := rfl; have := i32_rng (σ 15 1); have := i32_rng x2; omega) (fun j_3 hj_3 lj_3 => ?_)
    refine ok_nm (fun σ_4 e_4 => ?_)
    have k_4 : VS σ σ_4 := vs_up k_2 e_4 (by omega) (by omega) (by omega)
    refine ok_nm (fun v_5 e_5 => ?_)
    exact ok_mono (fun _ _ _ h9 => ⟨h9.1, vs_tr k_4 h9.2.1, kj_tr kj_2 h9.2.2⟩) (hrec_62 σ_4 τ_2 v_5 (k_4.1.2 hI) (by have : (0 : Int32).toInt = 0 := rfl; have : (1 : Int32).toInt = 1 := rfl; have : (15 : Int32).toInt = 15 := rfl; have := i32_rng (σ 15 1); have := i32_rng v_5; have := i32_rng x2; have u_v_5 : v_5.toInt = (x2).toInt + 1 := (by rw [e_5]; have q := ti_add (a := x2) (b := 1) (by rw [show (1 : Int32).toInt = 1 from rfl]; omega) (by rw [show (1 : Int32).toInt = 1 from rfl]; omega); rw [q, show (1 : Int32).toInt = 1 from rfl]); omega) (by have : (1 : Int32).toInt = 1 := rfl; have : (15 : Int32).toInt = 15 := rfl; have : (40 : Int32).toInt = 40 := rfl; have := i32_rng (σ 15 1); have := i32_rng (σ_4 15 1); have := i32_rng x2; have : (σ_4 15 1).toInt = (σ 15 1).toInt := (by simp [up2, e_4, hp_2.2.1]); omega) (by have : (1 : Int32).toInt = 1 := rfl; have : (15 : Int32).toInt = 15 := rfl; have := i32_rng (σ 15 1); have := i32_rng v_5; have := i32_rng x2; have u_v_5 : v_5.toInt = (x2).toInt + 1 := (by rw [e_5]; have q := ti_add (a := x2) (b := 1) (by rw [show (1 : Int32).toInt = 1 from rfl]; omega) (by rw [show (1 : Int32).toInt = 1 from rfl]; omega); rw [q, show (1 : Int32).toInt = 1 from rfl]); omega))
theorem s_H_X10_read_62 (N : Nat) (hN : 4294967296 ≤ N) : ∀ (n : Nat) (σ : gI) (τ : gJ) (x2 : Int32), IC σ → (0 ≤ x2.toInt) → ((σ 15 1).toInt ≤ 40) → (2147483647 - x2.toInt).toNat < n → okp (Vq σ τ (fun _ => True)) (H_X10_read_62 N n σ τ x2) := by
  intro n
  induction n with
  | zero => intro σ τ x2 _ _ _ hm; exact absurd hm (Nat.not_lt_zero _)
  | succ n ih =>
    intro σ τ x2 hI h0_62 hl hm
    exact s_C_X10_read_62 N hN (H_X10_read_62 N n) n ih σ τ x2 hI h0_62 hm hl
set_option maxHeartbeats 2000000 in
theorem s_C_X10_read_8 (N : Nat) (hN : 4294967296 ≤ N) (rec_8 : gI → gJ → Int32 → Option (Int32 × gI × gJ)) (n_8 : Nat) (hrec_8 : ∀ (σ : gI) (τ : gJ) (x2 : Int32), IC σ → (0 ≤ x2.toInt) → (2147483647 - x2.toInt).toNat < n_8 → okp (Vq σ τ (fun _ => True)) (rec_8 σ τ x2)) (σ : gI) (τ : gJ) (x2 : Int32) (hI : IC σ) (h0_8 : 0 ≤ x2.toInt) (hm_8 : (2147483647 - x2.toInt).toNat < n_8 + 1) : okp (Vq σ τ (fun _ => True)) (C_X10_read_8 N rec_8 σ τ x2) := by
  unfold C_X10_read_8
  refine ok_ite (fun c_1 => ?_) (fun c_1 => ?_)
  · simp only [fa_lt, fa_le, fa_eq] at c_1
    refine ok_nm (fun σ_2 e_2 => ?_)
    have k_2 : VS σ σ_2 := vs_up (vs_rf σ) e_2 (by omega) (by omega) (by omega)
    exact ok_mono (fun _ _ _ h9 => ⟨h9.1, vs_tr k_2 h9.2.1, kj_tr (kj_rf τ) h9.2.2⟩) (s_H_X10_read_62 N hN N σ_2 τ 0 (k_2.1.2 hI) (by have : (0 : Int32).toInt = 0 := rfl; have : (40 : Int32).toInt = 40 := rfl; have := i32_rng x2; omega) (by have : (1 : Int32).toInt = 1 := rfl; have : (15 : Int32).toInt = 15 := rfl; have : (40 : Int32).toInt = 40 := rfl; have := imin_c (σ 1 2) 40; have := i32_rng (σ_2 15 1); have := i32_rng (σ 1 2); have := i32_rng x2; have : (σ_2 15 1).toInt = (imin (σ 1 2) 40 : Int32).toInt := (by simp [up2, e_2]); omega) (by have : (0 : Int32).toInt = 0 := rfl; have : (40 : Int32).toInt = 40 := rfl; have := i32_rng x2; omega))
  · simp only [fa_lt, fa_le, fa_eq] at c_1
    refine ok_bd (s_B_X7_isOver_0 N hN σ τ x2 ((vs_rf σ).1.2 hI)) (fun r_3 σ_3 τ_3 hp_3 => ?_)
    have k_3 : VS σ σ_3 := vs_eq (vs_rf σ) hp_3.2.1
    have kj_3 : KJ τ τ_3 := kj_eq (kj_rf τ) hp_3.2.2
    refine ok_ite (fun c_2 => ?_) (fun c_2 => ?_)
    · simp only [fa_lt, fa_le, fa_eq] at c_2
      refine ok_bd (s_B_X7_digit_0 N hN σ_3 τ_3 x2 (k_3.1.2 hI)) (fun r_6 σ_6 τ_6 hp_6 => ?_)
      have k_6 : VS σ σ_6 := vs_eq k_3 hp_6.2.1
      have kj_6 : KJ τ τ_6 := kj_eq kj_3 hp_6.2.2
      refine ok_ite (fun c_3 => ?_) (fun c_3 => ?_)
      · simp only [fa_lt, fa_le, fa_eq] at c_3
        exact ok_r ⟨trivial, k_6, kj_6⟩
      · simp only [fa_lt, fa_le, fa_eq] at c_3
        refine ok_ite (fun c_4 => ?_) (fun c_4 => ?_)
        · simp only [fa_lt, fa_le, fa_eq] at c_4
          refine ok_nm (fun v_9 e_9 => ?_)
          exact ok_mono (fun _ _ _ h9 => ⟨h9.1, vs_tr k_6 h9.2.1, kj_tr kj_6 h9.2.2⟩) (hrec_8 σ_6 τ_6 v_9 (k_6.1.2 hI) (by have : (0 : Int32).toInt = 0 := rfl; have : (1 : Int32).toInt = 1 := rfl; have : (3 : Int32).toInt = 3 := rfl; have : (40 : Int32).toInt = 40 := rfl; have := i32_rng r_3; have := i32_rng r_6; have := i32_rng v_9; have := i32_rng x2; have u_v_9 : v_9.toInt = (x2).toInt + 1 := (by rw [e_9]; have q := ti_add (a := x2) (b := 1) (by rw [show (1 : Int32).toInt = 1 from rfl]; omega) (by rw [show (1 : Int32).toInt = 1 from rfl]; omega); rw [q, show (1 : Int32).toInt = 1 from rfl]); omega) (by have : (0 : Int32).toInt = 0 := rfl; have : (1 : Int32).toInt = 1 := rfl; have : (3 : Int32).toInt = 3 := rfl; have : (40 : Int32).toInt = 40 := rfl; have := i32_rng r_3; have := i32_rng r_6; have := i32_rng v_9; have := i32_rng x2; have u_v_9 : v_9.toInt = (x2).toInt + 1 := (by rw [e_9]; have q := ti_add (a := x2) (b := 1) (by rw [show (1 : Int32).toInt = 1 from rfl]; omega) (by rw [show (1 : Int32).toInt = 1 from rfl]; omega); rw [q, show (1 : Int32).toInt = 1 from rfl]); omega))
        · simp only [fa_lt, fa_le, fa_eq] at c_4
          exact ok_r ⟨trivial, k_6, kj_6⟩
    · simp only [fa_lt, fa_le, fa_eq] at c_2
      refine ok_nm (fun σ_5 e_5 => ?_)
      have k_5 : VS σ σ_5 := vs_up k_3 e_5 (by omega) (by omega) (by omega)
      exact ok_mono (fun _ _ _ h9 => ⟨h9.1, vs_tr k_5 h9.2.1, kj_tr kj_3 h9.2.2⟩) (s_H_X10_read_62 N hN N σ_5 τ_3 0 (k_5.1.2 hI) (by have : (0 : Int32).toInt = 0 := rfl; have : (40 : Int32).toInt = 40 := rfl; have := i32_rng r_3; have := i32_rng x2; omega) (by have : (0 : Int32).toInt = 0 := rfl; have : (1 : Int32).toInt = 1 := rfl; have : (15 : Int32).toInt = 15 := rfl; have : (40 : Int32).toInt = 40 := rfl; have := imin_c (σ_3 1 2) 40; have := i32_rng (σ_5 15 1); have := i32_rng (σ_3 1 2); have := i32_rng (σ 1 2); have := i32_rng r_3; have := i32_rng x2; have : (σ_5 15 1).toInt = (imin (σ_3 1 2) 40 : Int32).toInt := (by simp [up2, e_5]); have : (σ_3 1 2).toInt = (σ 1 2).toInt := (by simp [up2, hp_3.2.1]); omega) (by have : (0 : Int32).toInt = 0 := rfl; have : (40 : Int32).toInt = 40 := rfl; have := i32_rng r_3; have := i32_rng x2; omega))
theorem s_H_X10_read_8 (N : Nat) (hN : 4294967296 ≤ N) : ∀ (n : Nat) (σ : gI) (τ : gJ) (x2 : Int32), IC σ → (0 ≤ x2.toInt) → (2147483647 - x2.toInt).toNat < n → okp (Vq σ τ (fun _ => True)) (H_X10_read_8 N n σ τ x2) := by
  intro n
  induction n with
  | zero => intro σ τ x2 _ _ hm; exact absurd hm (Nat.not_lt_zero _)
  | succ n ih =>
    intro σ τ x2 hI h0_8 hm
    exact s_C_X10_read_8 N hN (H_X10_read_8 N n) n ih σ τ x2 hI h0_8 hm
set_option maxHeartbeats 2000000 in
theorem s_B_X10_read_0 (N : Nat) (hN : 4294967296 ≤ N) (σ : gI) (τ : gJ) (hI : IC σ) : okp (Vq σ τ (fun _ => True)) (B_X10_read_0 N σ τ) := by
  unfold B_X10_read_0
  refine ok_bd (s_B_X7_showAtMost_0 N hN σ τ 40 ((vs_rf σ).1.2 hI)) (fun _ σ_1 τ_1 hp_1 => ?_)
  have k_1 : VS σ σ_1 := vs_tr (vs_rf σ) (kv_ss hp_1.2.1)
  have kj_1 : KJ τ τ_1 := kj_tr (kj_rf τ) hp_1.2.2
  exact ok_mono (fun _ _ _ h9 => ⟨h9.1, vs_tr k_1 h9.2.1, kj_tr kj_1 h9.2.2⟩) (s_H_X10_read_8 N hN N σ_1 τ_1 0 (k_1.1.2 hI) (by have : (0 : Int32).toInt = 0 := rfl; omega) (by have : (0 : Int32).toInt = 0 := rfl; omega))
set_option maxHeartbeats 2000000 in
theorem s_C_X6_copy_42 (N : Nat) (hN : 4294967296 ≤ N) (c : Nat) (tc : gx_isS c) (d : Nat) (td : gx_isS d) (rec_42 : gI → gJ → Int32 → Option (Unit × gI × gJ)) (n_42 : Nat) (hrec_42 : ∀ (σ : gI) (τ : gJ) (x2 : Int32), IC σ → (0 ≤ x2.toInt) → (2147483647 - x2.toInt).toNat < n_42 → okp (Kq σ τ (fun _ => True)) (rec_42 σ τ x2)) (σ : gI) (τ : gJ) (x2 : Int32) (hI : IC σ) (h0_42 : 0 ≤ x2.toInt) (hm_42 : (2147483647 - x2.toInt).toNat < n_42 + 1) : okp (Kq σ τ (fun _ => True)) (C_X6_copy_42 N c d rec_42 σ τ x2) := by
  unfold C_X6_copy_42
  have hc := isS_rng tc
  have hd := isS_rng td
  refine ok_ite (fun c_1 => ?_) (fun c_1 => ?_)
  · simp only [fa_lt, fa_le, fa_eq] at c_1
    exact ok_r ⟨trivial, (ks_rf σ), (kj_rf τ)⟩
  · simp only [fa_lt, fa_le, fa_eq] at c_1
    refine ok_ite (fun c_2 => ?_) (fun c_2 => ?_)
    · simp only [fa_lt, fa_le, fa_eq] at c_2
      exact ok_r ⟨trivial, (ks_rf σ), (kj_rf τ)⟩
    · simp only [fa_lt, fa_le, fa_eq] at c_2
      refine ok_ck (by have : (0 : Int32).toInt = 0 := rfl; have : (6 : Int32).toInt = 6 := rfl; have := i32_rng (σ c 6); have := i32_rng x2; omega) (fun j_3 hj_3 lj_3 => ?_)
      refine ok_nm (fun σ_4 e_4 => ?_)
      have k_4 : KS σ σ_4 := ks_up (ks_rf σ) e_4 (by omega) (by omega) (by omega)
      refine ok_nm (fun σ_5 e_5 => ?_)
      have k_5 : KS σ σ_5 := ks_up k_4 e_5 (by omega) (by omega) (by omega)
      refine ok_nm (fun σ_6 e_6 => ?_)
      have k_6 : KS σ σ_6 := ks_up k_5 e_6 (by omega) (by omega) (by omega)
      refine ok_nm (fun σ_7 e_7 => ?_)
      have k_7 : KS σ σ_7 := ks_up k_6 e_7 (by omega) (by omega) (by omega)
      refine ok_nm (fun σ_8 e_8 => ?_)
      have k_8 : KS σ σ_8 := ks_up k_7 e_8 (by omega) (by omega) (by omega)
      refine ok_nm (fun σ_9 e_9 => ?_)
      have k_9 : KS σ σ_9 := ks_up k_8 e_9 (by omega) (by omega) (by omega)
      refine ok_nm (fun v_10 e_10 => ?_)
      exact ok_mono (fun _ _ _ h9 => ⟨h9.1, ks_tr k_9 h9.2.1, kj_tr (kj_rf τ) h9.2.2⟩) (hrec_42 σ_9 τ v_10 (k_9.1.2 hI) (by have : (0 : Int32).toInt = 0 := rfl; have : (1 : Int32).toInt = 1 := rfl; have : (6 : Int32).toInt = 6 := rfl; have := i32_rng (σ c 6); have := i32_rng v_10; have := i32_rng x2; have u_v_10 : v_10.toInt = (x2).toInt + 1 := (by rw [e_10]; have q := ti_add (a := x2) (b := 1) (by rw [show (1 : Int32).toInt = 1 from rfl]; omega) (by rw [show (1 : Int32).toInt = 1 from rfl]; omega); rw [q, show (1 : Int32).toInt = 1 from rfl]); omega) (by have : (1 : Int32).toInt = 1 := rfl; have : (6 : Int32).toInt = 6 := rfl; have := i32_rng (σ c 6); have := i32_rng v_10; have := i32_rng x2; have u_v_10 : v_10.toInt = (x2).toInt + 1 := (by rw [e_10]; have q := ti_add (a := x2) (b := 1) (by rw [show (1 : Int32).toInt = 1 from rfl]; omega) (by rw [show (1 : Int32).toInt = 1 from rfl]; omega); rw [q, show (1 : Int32).toInt = 1 from rfl]); omega))
theorem s_H_X6_copy_42 (N : Nat) (hN : 4294967296 ≤ N) (c : Nat) (tc : gx_isS c) (d : Nat) (td : gx_isS d) : ∀ (n : Nat) (σ : gI) (τ : gJ) (x2 : Int32), IC σ → (0 ≤ x2.toInt) → (2147483647 - x2.toInt).toNat < n → okp (Kq σ τ (fun _ => True)) (H_X6_copy_42 N c d n σ τ x2) := by
  intro n
  induction n with
  | zero => intro σ τ x2 _ _ hm; exact absurd hm (Nat.not_lt_zero _)
  | succ n ih =>
    intro σ τ x2 hI h0_42 hm
    exact s_C_X6_copy_42 N hN c tc d td (H_X6_copy_42 N c d n) n ih σ τ x2 hI h0_42 hm
set_option maxHeartbeats 2000000 in
theorem s_B_X6_copy_0 (N : Nat) (hN : 4294967296 ≤ N) (c : Nat) (tc : gx_isS c) (d : Nat) (td : gx_isS d) (σ : gI) (τ : gJ) (hI : IC σ) : okp (Kq σ τ (fun _ => True)) (B_X6_copy_0 N c d σ τ) := by
  unfold B_X6_copy_0
  have hc := isS_rng tc
  have hd := isS_rng td
  refine ok_nm (fun σ_1 e_1 => ?_)
  have k_1 : KS σ σ_1 := ks_up (ks_rf σ) e_1 (by omega) (by omega) (by omega)
  refine ok_nm (fun σ_2 e_2 => ?_)
  have k_2 : KS σ σ_2 := ks_up k_1 e_2 (by omega) (by omega) (by omega)
  refine ok_nm (fun σ_3 e_3 => ?_)
  have k_3 : KS σ σ_3 := ks_up k_2 e_3 (by omega) (by omega) (by omega)
  refine ok_nm (fun σ_4 e_4 => ?_)
  have k_4 : KS σ σ_4 := ks_up k_3 e_4 (by omega) (by omega) (by omega)
  refine ok_nm (fun σ_5 e_5 => ?_)
  have k_5 : KS σ σ_5 := ks_up k_4 e_5 (by omega) (by omega) (by omega)
  exact ok_mono (fun _ _ _ h9 => ⟨h9.1, ks_tr k_5 h9.2.1, kj_tr (kj_rf τ) h9.2.2⟩) (s_H_X6_copy_42 N hN c tc d td N σ_5 τ 0 (k_5.1.2 hI) (by have : (0 : Int32).toInt = 0 := rfl; omega) (by have : (0 : Int32).toInt = 0 := rfl; omega))
set_option maxHeartbeats 2000000 in
theorem s_B_X3_clear_0 (N : Nat) (hN : 4294967296 ≤ N) (σ : gI) (τ : gJ) (hI : IC σ) : okp (Kq σ τ (fun _ => True)) (B_X3_clear_0 N σ τ) := by
  unfold B_X3_clear_0
  refine ok_nm (fun σ_1 e_1 => ?_)
  have k_1 : KS σ σ_1 := ks_up (ks_rf σ) e_1 (by omega) (by omega) (by omega)
  exact ok_r ⟨trivial, k_1, (kj_rf τ)⟩
set_option maxHeartbeats 2000000 in
theorem s_B_X11_again_0 (N : Nat) (hN : 4294967296 ≤ N) (σ : gI) (τ : gJ) (x1 : Int32) (hI : IC σ) : okp (Kq σ τ (fun a => a = 0 ∨ a = 1)) (B_X11_again_0 N σ τ x1) := by
  unfold B_X11_again_0
  refine ok_ite (fun c_1 => ?_) (fun c_1 => ?_)
  · simp only [fa_lt, fa_le, fa_eq] at c_1
    exact ok_r ⟨(Or.inl rfl), (ks_rf σ), (kj_rf τ)⟩
  · simp only [fa_lt, fa_le, fa_eq] at c_1
    refine ok_ite (fun c_2 => ?_) (fun c_2 => ?_)
    · simp only [fa_lt, fa_le, fa_eq] at c_2
      exact ok_r ⟨(Or.inl rfl), (ks_rf σ), (kj_rf τ)⟩
    · simp only [fa_lt, fa_le, fa_eq] at c_2
      refine ok_ite (fun c_3 => ?_) (fun c_3 => ?_)
      · simp only [fa_lt, fa_le, fa_eq] at c_3
        exact ok_r ⟨(Or.inl rfl), (ks_rf σ), (kj_rf τ)⟩
      · simp only [fa_lt, fa_le, fa_eq] at c_3
        refine ok_ck (by have : (0 : Int32).toInt = 0 := rfl; have : (1 : Int32).toInt = 1 := rfl; have : (3 : Int32).toInt = 3 := rfl; have : (11 : Int32).toInt = 11 := rfl; have : (31 : Int32).toInt = 31 := rfl; have := i32_rng (σ 0 11); have := i32_rng x1; omega) (fun j_4 hj_4 lj_4 => ?_)
        refine ok_bd (s_B_X6_copy_0 N hN 30 is_30 (178 + 7 * j_4) (tb_kept lj_4) σ τ ((ks_rf σ).1.2 hI)) (fun _ σ_5 τ_5 hp_5 => ?_)
        have k_5 : KS σ σ_5 := ks_tr (ks_rf σ) hp_5.2.1
        have kj_5 : KJ τ τ_5 := kj_tr (kj_rf τ) hp_5.2.2
        refine ok_bd (s_B_X3_clear_0 N hN σ_5 τ_5 (k_5.1.2 hI)) (fun _ σ_6 τ_6 hp_6 => ?_)
        have k_6 : KS σ σ_6 := ks_tr k_5 hp_6.2.1
        have kj_6 : KJ τ τ_6 := kj_tr kj_5 hp_6.2.2
        exact ok_r ⟨(Or.inr rfl), k_6, kj_6⟩
set_option maxHeartbeats 2000000 in
theorem s_B_X11_isLoad_0 (N : Nat) (hN : 4294967296 ≤ N) (σ : gI) (τ : gJ) (x0 : Int32) (x1 : Int32) (hI : IC σ) : okp (Kqe σ τ (fun a => a = 0 ∨ a = 1)) (B_X11_isLoad_0 N σ τ x0 x1) := by
  unfold B_X11_isLoad_0
  refine ok_ite (fun c_1 => ?_) (fun c_1 => ?_)
  · simp only [fa_lt, fa_le, fa_eq] at c_1
    exact ok_r ⟨(Or.inl rfl), (Eq.refl σ), (Eq.refl τ)⟩
  · simp only [fa_lt, fa_le, fa_eq] at c_1
    refine ok_ite (fun c_2 => ?_) (fun c_2 => ?_)
    · simp only [fa_lt, fa_le, fa_eq] at c_2
      exact ok_r ⟨(Or.inl rfl), (Eq.refl σ), (Eq.refl τ)⟩
    · simp only [fa_lt, fa_le, fa_eq] at c_2
      refine ok_ite (fun c_3 => ?_) (fun c_3 => ?_)
      · simp only [fa_lt, fa_le, fa_eq] at c_3
        exact ok_r ⟨(Or.inl rfl), (Eq.refl σ), (Eq.refl τ)⟩
      · simp only [fa_lt, fa_le, fa_eq] at c_3
        refine ok_ite (fun c_4 => ?_) (fun c_4 => ?_)
        · simp only [fa_lt, fa_le, fa_eq] at c_4
          exact ok_r ⟨(Or.inl rfl), (Eq.refl σ), (Eq.refl τ)⟩
        · simp only [fa_lt, fa_le, fa_eq] at c_4
          exact ok_r ⟨(Or.inr rfl), (Eq.refl σ), (Eq.refl τ)⟩
set_option maxHeartbeats 2000000 in
theorem s_B_X8_isKitchen_0 (N : Nat) (hN : 4294967296 ≤ N) (σ : gI) (τ : gJ) (x1 : Int32) (hI : IC σ) : okp (Kqe σ τ (fun a => a = 0 ∨ a = 1)) (B_X8_isKitchen_0 N σ τ x1) := by
  unfold B_X8_isKitchen_0
  refine ok_ite (fun c_1 => ?_) (fun c_1 => ?_)
  · simp only [fa_lt, fa_le, fa_eq] at c_1
    exact ok_r ⟨(Or.inl rfl), (Eq.refl σ), (Eq.refl τ)⟩
  · simp only [fa_lt, fa_le, fa_eq] at c_1
    refine ok_ite (fun c_2 => ?_) (fun c_2 => ?_)
    · simp only [fa_lt, fa_le, fa_eq] at c_2
      exact ok_r ⟨(Or.inl rfl), (Eq.refl σ), (Eq.refl τ)⟩
    · simp only [fa_lt, fa_le, fa_eq] at c_2
      refine ok_ite (fun c_3 => ?_) (fun c_3 => ?_)
      · simp only [fa_lt, fa_le, fa_eq] at c_3
        exact ok_r ⟨(Or.inl rfl), (Eq.refl σ), (Eq.refl τ)⟩
      · simp only [fa_lt, fa_le, fa_eq] at c_3
        exact ok_r ⟨(Or.inr rfl), (Eq.refl σ), (Eq.refl τ)⟩
set_option maxHeartbeats 2000000 in
theorem s_B_X6_clear_0 (N : Nat) (hN : 4294967296 ≤ N) (c : Nat) (tc : gx_isS c) (σ : gI) (τ : gJ) (hI : IC σ) : okp (Kq σ τ (fun _ => True)) (B_X6_clear_0 N c σ τ) := by
  unfold B_X6_clear_0
  have hc := isS_rng tc
  refine ok_nm (fun σ_1 e_1 => ?_)
  have k_1 : KS σ σ_1 := ks_up (ks_rf σ) e_1 (by omega) (by omega) (by omega)
  refine ok_nm (fun σ_2 e_2 => ?_)
  have k_2 : KS σ σ_2 := ks_up k_1 e_2 (by omega) (by omega) (by omega)
  refine ok_nm (fun σ_3 e_3 => ?_)
  have k_3 : KS σ σ_3 := ks_up k_2 e_3 (by omega) (by omega) (by omega)
  refine ok_nm (fun σ_4 e_4 => ?_)
  have k_4 : KS σ σ_4 := ks_up k_3 e_4 (by omega) (by omega) (by omega)
  refine ok_nm (fun σ_5 e_5 => ?_)
  have k_5 : KS σ σ_5 := ks_up k_4 e_5 (by omega) (by omega) (by omega)
  exact ok_r ⟨trivial, k_5, (kj_rf τ)⟩
set_option maxHeartbeats 2000000 in
theorem s_B_X6_comeHome_0 (N : Nat) (hN : 4294967296 ≤ N) (c : Nat) (tc : gx_isS c) (σ : gI) (τ : gJ) (x1 : Int32) (hI : IC σ) : okp (Kq σ τ (fun _ => True)) (B_X6_comeHome_0 N c σ τ x1) := by
  unfold B_X6_comeHome_0
  have hc := isS_rng tc
  refine ok_ite (fun c_1 => ?_) (fun c_1 => ?_)
  · simp only [fa_lt, fa_le, fa_eq] at c_1
    exact ok_r ⟨trivial, (ks_rf σ), (kj_rf τ)⟩
  · simp only [fa_lt, fa_le, fa_eq] at c_1
    refine ok_ite (fun c_2 => ?_) (fun c_2 => ?_)
    · simp only [fa_lt, fa_le, fa_eq] at c_2
      exact ok_r ⟨trivial, (ks_rf σ), (kj_rf τ)⟩
    · simp only [fa_lt, fa_le, fa_eq] at c_2
      refine ok_nm (fun σ_3 e_3 => ?_)
      have k_3 : KS σ σ_3 := ks_up (ks_rf σ) e_3 (by omega) (by omega) (by omega)
      refine ok_ck (by have : (0 : Int32).toInt = 0 := rfl; have : (6 : Int32).toInt = 6 := rfl; have := i32_rng x1; omega) (fun j_4 hj_4 lj_4 => ?_)
      refine ok_nm (fun σ_5 e_5 => ?_)
      have k_5 : KS σ σ_5 := ks_up k_3 e_5 (by omega) (by omega) (by omega)
      exact ok_r ⟨trivial, k_5, (kj_rf τ)⟩
set_option maxHeartbeats 2000000 in
theorem s_B_X6_add_0 (N : Nat) (hN : 4294967296 ≤ N) (c : Nat) (tc : gx_isS c) (σ : gI) (τ : gJ) (x1 : Int32) (x2 : Int32) (x3 : Int32) (x4 : Int32) (x5 : Int32) (hI : IC σ) : okp (Kq σ τ (fun _ => True)) (B_X6_add_0 N c σ τ x1 x2 x3 x4 x5) := by
  unfold B_X6_add_0
  have hc := isS_rng tc
  refine ok_nm (fun v_1 e_1 => ?_)
  refine ok_ite (fun c_1 => ?_) (fun c_1 => ?_)
  · simp only [fa_lt, fa_le, fa_eq] at c_1
    exact ok_r ⟨trivial, (ks_rf σ), (kj_rf τ)⟩
  · simp only [fa_lt, fa_le, fa_eq] at c_1
    refine ok_ite (fun c_2 => ?_) (fun c_2 => ?_)
    · simp only [fa_lt, fa_le, fa_eq] at c_2
      refine ok_ck (by have : (0 : Int32).toInt = 0 := rfl; have : (6 : Int32).toInt = 6 := rfl; have := i32_rng (σ c 6); have := i32_rng v_1; have u_v_1 : v_1.toInt = (σ c 6).toInt := (by rw [e_1]); omega) (fun j_4 hj_4 lj_4 => ?_)
      refine ok_nm (fun σ_5 e_5 => ?_)
      have k_5 : KS σ σ_5 := ks_up (ks_rf σ) e_5 (by omega) (by omega) (by omega)
      refine ok_nm (fun σ_6 e_6 => ?_)
      have k_6 : KS σ σ_6 := ks_up k_5 e_6 (by omega) (by omega) (by omega)
      refine ok_nm (fun σ_7 e_7 => ?_)
      have k_7 : KS σ σ_7 := ks_up k_6 e_7 (by omega) (by omega) (by omega)
      refine ok_nm (fun σ_8 e_8 => ?_)
      have k_8 : KS σ σ_8 := ks_up k_7 e_8 (by omega) (by omega) (by omega)
      refine ok_nm (fun σ_9 e_9 => ?_)
      have k_9 : KS σ σ_9 := ks_up k_8 e_9 (by omega) (by omega) (by omega)
      refine ok_nm (fun σ_10 e_10 => ?_)
      have k_10 : KS σ σ_10 := ks_up k_9 e_10 (by omega) (by omega) (by omega)
      refine ok_nm (fun σ_11 e_11 => ?_)
      have k_11 : KS σ σ_11 := ks_up k_10 e_11 (by omega) (by omega) (by omega)
      refine ok_ite (fun c_3 => ?_) (fun c_3 => ?_)
      · simp only [fa_lt, fa_le, fa_eq] at c_3
        exact ok_r ⟨trivial, k_11, (kj_rf τ)⟩
      · simp only [fa_lt, fa_le, fa_eq] at c_3
        refine ok_bd (s_B_X6_comeHome_0 N hN c tc σ_11 τ v_1 (k_11.1.2 hI)) (fun _ σ_13 τ_13 hp_13 => ?_)
        have k_13 : KS σ σ_13 := ks_tr k_11 hp_13.2.1
        have kj_13 : KJ τ τ_13 := kj_tr (kj_rf τ) hp_13.2.2
        exact ok_r ⟨trivial, k_13, kj_13⟩
    · simp only [fa_lt, fa_le, fa_eq] at c_2
      exact ok_r ⟨trivial, (ks_rf σ), (kj_rf τ)⟩
set_option maxHeartbeats 2000000 in
theorem s_B_X9_thinkOf_0 (N : Nat) (hN : 4294967296 ≤ N) (σ : gI) (τ : gJ) (x1 : Int32) (x2 : Int32) (x3 : Int32) (x4 : Int32) (x5 : Int32) (hI : IC σ) : okp (Kq σ τ (fun _ => True)) (B_X9_thinkOf_0 N σ τ x1 x2 x3 x4 x5) := by
  unfold B_X9_thinkOf_0
  refine ok_bd (s_B_X6_clear_0 N hN 164 is_164 σ τ ((ks_rf σ).1.2 hI)) (fun _ σ_1 τ_1 hp_1 => ?_)
  have k_1 : KS σ σ_1 := ks_tr (ks_rf σ) hp_1.2.1
  have kj_1 : KJ τ τ_1 := kj_tr (kj_rf τ) hp_1.2.2
  refine ok_nm (fun σ_2 e_2 => ?_)
  have k_2 : KS σ σ_2 := ks_up k_1 e_2 (by omega) (by omega) (by omega)
  refine ok_bd (s_B_X8_isKitchen_0 N hN σ_2 τ_1 x1 (k_2.1.2 hI)) (fun r_3 σ_3 τ_3 hp_3 => ?_)
  have k_3 : KS σ σ_3 := ks_eq k_2 hp_3.2.1
  have kj_3 : KJ τ τ_3 := kj_eq kj_1 hp_3.2.2
  refine ok_bd (s_B_X6_add_0 N hN 164 is_164 σ_3 τ_3 x1 x2 x3 x4 r_3 (k_3.1.2 hI)) (fun r_4 σ_4 τ_4 hp_4 => ?_)
  have k_4 : KS σ σ_4 := ks_tr k_3 hp_4.2.1
  have kj_4 : KJ τ τ_4 := kj_tr kj_3 hp_4.2.2
  refine ok_nm (fun σ_5 e_5 => ?_)
  have k_5 : KS σ σ_5 := ks_up k_4 e_5 (by omega) (by omega) (by omega)
  refine ok_nm (fun σ_6 e_6 => ?_)
  have k_6 : KS σ σ_6 := ks_up k_5 e_6 (by omega) (by omega) (by omega)
  exact ok_r ⟨trivial, k_6, kj_4⟩
set_option maxHeartbeats 2000000 in
theorem s_B_X9_begin_0 (N : Nat) (hN : 4294967296 ≤ N) (σ : gI) (τ : gJ) (x1 : Int32) (hI : IC σ) : okp (Kq σ τ (fun _ => True)) (B_X9_begin_0 N σ τ x1) := by
  unfold B_X9_begin_0
  refine ok_bd (s_B_X6_copy_0 N hN 171 is_171 164 is_164 σ τ ((ks_rf σ).1.2 hI)) (fun _ σ_1 τ_1 hp_1 => ?_)
  have k_1 : KS σ σ_1 := ks_tr (ks_rf σ) hp_1.2.1
  have kj_1 : KJ τ τ_1 := kj_tr (kj_rf τ) hp_1.2.2
  refine ok_nm (fun σ_2 e_2 => ?_)
  have k_2 : KS σ σ_2 := ks_up k_1 e_2 (by omega) (by omega) (by omega)
  refine ok_nm (fun σ_3 e_3 => ?_)
  have k_3 : KS σ σ_3 := ks_up k_2 e_3 (by omega) (by omega) (by omega)
  refine ok_nm (fun σ_4 e_4 => ?_)
  have k_4 : KS σ σ_4 := ks_up k_3 e_4 (by omega) (by omega) (by omega)
  exact ok_r ⟨trivial, k_4, kj_1⟩
set_option maxHeartbeats 2000000 in
theorem s_B_X6_spotOf_0 (N : Nat) (hN : 4294967296 ≤ N) (c : Nat) (tc : gx_isS c) (σ : gI) (τ : gJ) (x1 : Int32) (hI : IC σ) : okp (Kqe σ τ (fun _ => True)) (B_X6_spotOf_0 N c σ τ x1) := by
  unfold B_X6_spotOf_0
  have hc := isS_rng tc
  refine ok_ite (fun c_1 => ?_) (fun c_1 => ?_)
  · simp only [fa_lt, fa_le, fa_eq] at c_1
    exact ok_r ⟨trivial, (Eq.refl σ), (Eq.refl τ)⟩
  · simp only [fa_lt, fa_le, fa_eq] at c_1
    refine ok_ite (fun c_2 => ?_) (fun c_2 => ?_)
    · simp only [fa_lt, fa_le, fa_eq] at c_2
      exact ok_r ⟨trivial, (Eq.refl σ), (Eq.refl τ)⟩
    · simp only [fa_lt, fa_le, fa_eq] at c_2
      refine ok_ck (by have : (0 : Int32).toInt = 0 := rfl; have : (6 : Int32).toInt = 6 := rfl; have := i32_rng x1; omega) (fun j_3 hj_3 lj_3 => ?_)
      exact ok_r ⟨trivial, (Eq.refl σ), (Eq.refl τ)⟩
set_option maxHeartbeats 2000000 in
theorem s_B_X1_flowIn_54 (N : Nat) (hN : 4294967296 ≤ N) (σ : gI) (τ : gJ) (x2 : Int32) (y0 : Int32) (hI : IC σ) : okp (Kqe σ τ (fun _ => True)) (B_X1_flowIn_54 N σ τ x2 y0) := by
  unfold B_X1_flowIn_54
  refine ok_ite (fun c_1 => ?_) (fun c_1 => ?_)
  · simp only [fa_lt, fa_le, fa_eq] at c_1
    exact ok_r ⟨trivial, (Eq.refl σ), (Eq.refl τ)⟩
  · simp only [fa_lt, fa_le, fa_eq] at c_1
    exact ok_r ⟨trivial, (Eq.refl σ), (Eq.refl τ)⟩
set_option maxHeartbeats 2000000 in
theorem s_B_X1_flowIn_0 (N : Nat) (hN : 4294967296 ≤ N) (σ : gI) (τ : gJ) (x1 : Int32) (hI : IC σ) : okp (Kqe σ τ (fun _ => True)) (B_X1_flowIn_0 N σ τ x1) := by
  unfold B_X1_flowIn_0
  refine ok_bd (s_B_X10_in_0 N hN σ τ x1 ((ic_eq (Eq.refl σ)) hI)) (fun r_1 σ_1 τ_1 hp_1 => ?_)
  have k_1 : σ_1 = σ := hp_1.2.1.trans (Eq.refl σ)
  have kj_1 : τ_1 = τ := hp_1.2.2.trans (Eq.refl τ)
  refine ok_ite (fun c_1 => ?_) (fun c_1 => ?_)
  · simp only [fa_lt, fa_le, fa_eq] at c_1
    exact ok_r ⟨trivial, k_1, kj_1⟩
  · simp only [fa_lt, fa_le, fa_eq] at c_1
    refine ok_nm (fun v_3 e_3 => ?_)
    refine ok_ite (fun c_2 => ?_) (fun c_2 => ?_)
    · simp only [fa_lt, fa_le, fa_eq] at c_2
      exact ok_mono (fun _ _ _ h9 => ⟨h9.1, h9.2.1.trans k_1, h9.2.2.trans kj_1⟩) (s_B_X1_flowIn_54 N hN σ_1 τ_1 r_1 0 ((ic_eq k_1) hI))
    · simp only [fa_lt, fa_le, fa_eq] at c_2
      refine ok_ite (fun c_3 => ?_) (fun c_3 => ?_)
      · simp only [fa_lt, fa_le, fa_eq] at c_3
        exact ok_mono (fun _ _ _ h9 => ⟨h9.1, h9.2.1.trans k_1, h9.2.2.trans kj_1⟩) (s_B_X1_flowIn_54 N hN σ_1 τ_1 r_1 0 ((ic_eq k_1) hI))
      · simp only [fa_lt, fa_le, fa_eq] at c_3
        refine ok_ite (fun c_4 => ?_) (fun c_4 => ?_)
        · simp only [fa_lt, fa_le, fa_eq] at c_4
          exact ok_mono (fun _ _ _ h9 => ⟨h9.1, h9.2.1.trans k_1, h9.2.2.trans kj_1⟩) (s_B_X1_flowIn_54 N hN σ_1 τ_1 r_1 0 ((ic_eq k_1) hI))
        · simp only [fa_lt, fa_le, fa_eq] at c_4
          exact ok_mono (fun _ _ _ h9 => ⟨h9.1, h9.2.1.trans k_1, h9.2.2.trans kj_1⟩) (s_B_X1_flowIn_54 N hN σ_1 τ_1 r_1 1 ((ic_eq k_1) hI))
set_option maxHeartbeats 2000000 in
theorem s_B_X6_isAfloat_28 (N : Nat) (hN : 4294967296 ≤ N) (c : Nat) (tc : gx_isS c) (σ : gI) (τ : gJ) (x1 : Int32) (y0 : Int32) (hI : IC σ) : okp (Kqe σ τ (fun a => a = 0 ∨ a = 1)) (B_X6_isAfloat_28 N c σ τ x1 y0) := by
  unfold B_X6_isAfloat_28
  have hc := isS_rng tc
  refine ok_ite (fun c_1 => ?_) (fun c_1 => ?_)
  · simp only [fa_lt, fa_le, fa_eq] at c_1
    exact ok_r ⟨(Or.inl rfl), (Eq.refl σ), (Eq.refl τ)⟩
  · simp only [fa_lt, fa_le, fa_eq] at c_1
    refine ok_ite (fun c_2 => ?_) (fun c_2 => ?_)
    · simp only [fa_lt, fa_le, fa_eq] at c_2
      exact ok_r ⟨(Or.inr rfl), (Eq.refl σ), (Eq.refl τ)⟩
    · simp only [fa_lt, fa_le, fa_eq] at c_2
      exact ok_r ⟨(Or.inl rfl), (Eq.refl σ), (Eq.refl τ)⟩
set_option maxHeartbeats 2000000 in
theorem s_B_X6_isAfloat_0 (N : Nat) (hN : 4294967296 ≤ N) (c : Nat) (tc : gx_isS c) (σ : gI) (τ : gJ) (x1 : Int32) (hI : IC σ) : okp (Kqe σ τ (fun a => a = 0 ∨ a = 1)) (B_X6_isAfloat_0 N c σ τ x1) := by
  unfold B_X6_isAfloat_0
  have hc := isS_rng tc
  refine ok_ite (fun c_1 => ?_) (fun c_1 => ?_)
  · simp only [fa_lt, fa_le, fa_eq] at c_1
    exact ok_mono (fun _ _ _ h9 => ⟨h9.1, h9.2.1.trans (Eq.refl σ), h9.2.2.trans (Eq.refl τ)⟩) (s_B_X6_isAfloat_28 N hN c tc σ τ x1 0 ((ic_eq (Eq.refl σ)) hI))
  · simp only [fa_lt, fa_le, fa_eq] at c_1
    refine ok_ite (fun c_2 => ?_) (fun c_2 => ?_)
    · simp only [fa_lt, fa_le, fa_eq] at c_2
      exact ok_mono (fun _ _ _ h9 => ⟨h9.1, h9.2.1.trans (Eq.refl σ), h9.2.2.trans (Eq.refl τ)⟩) (s_B_X6_isAfloat_28 N hN c tc σ τ x1 0 ((ic_eq (Eq.refl σ)) hI))
    · simp only [fa_lt, fa_le, fa_eq] at c_2
      refine ok_ck (by have : (0 : Int32).toInt = 0 := rfl; have : (6 : Int32).toInt = 6 := rfl; have := i32_rng x1; omega) (fun j_3 hj_3 lj_3 => ?_)
      refine ok_ite (fun c_3 => ?_) (fun c_3 => ?_)
      · simp only [fa_lt, fa_le, fa_eq] at c_3
        exact ok_mono (fun _ _ _ h9 => ⟨h9.1, h9.2.1.trans (Eq.refl σ), h9.2.2.trans (Eq.refl τ)⟩) (s_B_X6_isAfloat_28 N hN c tc σ τ x1 0 ((ic_eq (Eq.refl σ)) hI))
      · simp only [fa_lt, fa_le, fa_eq] at c_3
        exact ok_mono (fun _ _ _ h9 => ⟨h9.1, h9.2.1.trans (Eq.refl σ), h9.2.2.trans (Eq.refl τ)⟩) (s_B_X6_isAfloat_28 N hN c tc σ τ x1 1 ((ic_eq (Eq.refl σ)) hI))
set_option maxHeartbeats 2000000 in
theorem s_B_X8_figureOf_0 (N : Nat) (hN : 4294967296 ≤ N) (σ : gI) (τ : gJ) (x1 : Int32) (hI : IC σ) : okp (Kqe σ τ (fun _ => True)) (B_X8_figureOf_0 N σ τ x1) := by
  unfold B_X8_figureOf_0
  refine ok_ite (fun c_1 => ?_) (fun c_1 => ?_)
  · simp only [fa_lt, fa_le, fa_eq] at c_1
    exact ok_r ⟨trivial, (Eq.refl σ), (Eq.refl τ)⟩
  · simp only [fa_lt, fa_le, fa_eq] at c_1
    refine ok_ite (fun c_2 => ?_) (fun c_2 => ?_)
    · simp only [fa_lt, fa_le, fa_eq] at c_2
      exact ok_r ⟨trivial, (Eq.refl σ), (Eq.refl τ)⟩
    · simp only [fa_lt, fa_le, fa_eq] at c_2
      refine ok_ck (by have : (0 : Int32).toInt = 0 := rfl; have : (12 : Int32).toInt = 12 := rfl; have := i32_rng x1; omega) (fun j_3 hj_3 lj_3 => ?_)
      exact ok_r ⟨trivial, (Eq.refl σ), (Eq.refl τ)⟩
set_option maxHeartbeats 2000000 in
theorem s_B_X8_nextOf_0 (N : Nat) (hN : 4294967296 ≤ N) (σ : gI) (τ : gJ) (x1 : Int32) (hI : IC σ) : okp (Kqe σ τ (fun _ => True)) (B_X8_nextOf_0 N σ τ x1) := by
  unfold B_X8_nextOf_0
  refine ok_ite (fun c_1 => ?_) (fun c_1 => ?_)
  · simp only [fa_lt, fa_le, fa_eq] at c_1
    exact ok_r ⟨trivial, (Eq.refl σ), (Eq.refl τ)⟩
  · simp only [fa_lt, fa_le, fa_eq] at c_1
    refine ok_ite (fun c_2 => ?_) (fun c_2 => ?_)
    · simp only [fa_lt, fa_le, fa_eq] at c_2
      exact ok_r ⟨trivial, (Eq.refl σ), (Eq.refl τ)⟩
    · simp only [fa_lt, fa_le, fa_eq] at c_2
      refine ok_ck (by have : (0 : Int32).toInt = 0 := rfl; have : (12 : Int32).toInt = 12 := rfl; have := i32_rng x1; omega) (fun j_3 hj_3 lj_3 => ?_)
      exact ok_r ⟨trivial, (Eq.refl σ), (Eq.refl τ)⟩
set_option maxHeartbeats 2000000 in
theorem s_B_X8_kindOf_0 (N : Nat) (hN : 4294967296 ≤ N) (σ : gI) (τ : gJ) (x1 : Int32) (hI : IC σ) : okp (Kqe σ τ (fun _ => True)) (B_X8_kindOf_0 N σ τ x1) := by
  unfold B_X8_kindOf_0
  refine ok_ite (fun c_1 => ?_) (fun c_1 => ?_)
  · simp only [fa_lt, fa_le, fa_eq] at c_1
    exact ok_r ⟨trivial, (Eq.refl σ), (Eq.refl τ)⟩
  · simp only [fa_lt, fa_le, fa_eq] at c_1
    refine ok_ite (fun c_2 => ?_) (fun c_2 => ?_)
    · simp only [fa_lt, fa_le, fa_eq] at c_2
      exact ok_r ⟨trivial, (Eq.refl σ), (Eq.refl τ)⟩
    · simp only [fa_lt, fa_le, fa_eq] at c_2
      refine ok_ck (by have : (0 : Int32).toInt = 0 := rfl; have : (12 : Int32).toInt = 12 := rfl; have := i32_rng x1; omega) (fun j_3 hj_3 lj_3 => ?_)
      exact ok_r ⟨trivial, (Eq.refl σ), (Eq.refl τ)⟩
set_option maxHeartbeats 2000000 in
theorem s_B_X8_secondOf_0 (N : Nat) (hN : 4294967296 ≤ N) (σ : gI) (τ : gJ) (x1 : Int32) (hI : IC σ) : okp (Kqe σ τ (fun _ => True)) (B_X8_secondOf_0 N σ τ x1) := by
  unfold B_X8_secondOf_0
  refine ok_ite (fun c_1 => ?_) (fun c_1 => ?_)
  · simp only [fa_lt, fa_le, fa_eq] at c_1
    exact ok_r ⟨trivial, (Eq.refl σ), (Eq.refl τ)⟩
  · simp only [fa_lt, fa_le, fa_eq] at c_1
    refine ok_ite (fun c_2 => ?_) (fun c_2 => ?_)
    · simp only [fa_lt, fa_le, fa_eq] at c_2
      exact ok_r ⟨trivial, (Eq.refl σ), (Eq.refl τ)⟩
    · simp only [fa_lt, fa_le, fa_eq] at c_2
      refine ok_ck (by have : (0 : Int32).toInt = 0 := rfl; have : (12 : Int32).toInt = 12 := rfl; have := i32_rng x1; omega) (fun j_3 hj_3 lj_3 => ?_)
      exact ok_r ⟨trivial, (Eq.refl σ), (Eq.refl τ)⟩
set_option maxHeartbeats 2000000 in
theorem s_B_X6_paperOf_0 (N : Nat) (hN : 4294967296 ≤ N) (c : Nat) (tc : gx_isS c) (σ : gI) (τ : gJ) (x1 : Int32) (hI : IC σ) : okp (Kqe σ τ (fun _ => True)) (B_X6_paperOf_0 N c σ τ x1) := by
  unfold B_X6_paperOf_0
  have hc := isS_rng tc
  refine ok_ite (fun c_1 => ?_) (fun c_1 => ?_)
  · simp only [fa_lt, fa_le, fa_eq] at c_1
    exact ok_r ⟨trivial, (Eq.refl σ), (Eq.refl τ)⟩
  · simp only [fa_lt, fa_le, fa_eq] at c_1
    refine ok_ite (fun c_2 => ?_) (fun c_2 => ?_)
    · simp only [fa_lt, fa_le, fa_eq] at c_2
      exact ok_r ⟨trivial, (Eq.refl σ), (Eq.refl τ)⟩
    · simp only [fa_lt, fa_le, fa_eq] at c_2
      refine ok_ck (by have : (0 : Int32).toInt = 0 := rfl; have : (6 : Int32).toInt = 6 := rfl; have := i32_rng x1; omega) (fun j_3 hj_3 lj_3 => ?_)
      exact ok_r ⟨trivial, (Eq.refl σ), (Eq.refl τ)⟩
set_option maxHeartbeats 2000000 in
theorem s_B_X6_purseOf_0 (N : Nat) (hN : 4294967296 ≤ N) (c : Nat) (tc : gx_isS c) (σ : gI) (τ : gJ) (x1 : Int32) (hI : IC σ) : okp (Kqe σ τ (fun _ => True)) (B_X6_purseOf_0 N c σ τ x1) := by
  unfold B_X6_purseOf_0
  have hc := isS_rng tc
  refine ok_ite (fun c_1 => ?_) (fun c_1 => ?_)
  · simp only [fa_lt, fa_le, fa_eq] at c_1
    exact ok_r ⟨trivial, (Eq.refl σ), (Eq.refl τ)⟩
  · simp only [fa_lt, fa_le, fa_eq] at c_1
    refine ok_ite (fun c_2 => ?_) (fun c_2 => ?_)
    · simp only [fa_lt, fa_le, fa_eq] at c_2
      exact ok_r ⟨trivial, (Eq.refl σ), (Eq.refl τ)⟩
    · simp only [fa_lt, fa_le, fa_eq] at c_2
      refine ok_ck (by have : (0 : Int32).toInt = 0 := rfl; have : (6 : Int32).toInt = 6 := rfl; have := i32_rng x1; omega) (fun j_3 hj_3 lj_3 => ?_)
      exact ok_r ⟨trivial, (Eq.refl σ), (Eq.refl τ)⟩
set_option maxHeartbeats 2000000 in
theorem s_C_X6_at_4 (N : Nat) (hN : 4294967296 ≤ N) (c : Nat) (tc : gx_isS c) (rec_4 : gI → gJ → Int32 → Int32 → Int32 → Option (Int32 × gI × gJ)) (n_4 : Nat) (hrec_4 : ∀ (σ : gI) (τ : gJ) (x1 : Int32) (x2 : Int32) (x3 : Int32), IC σ → (0 ≤ x3.toInt) → (2147483647 - x3.toInt).toNat < n_4 → okp (Kqe σ τ (fun _ => True)) (rec_4 σ τ x1 x2 x3)) (σ : gI) (τ : gJ) (x1 : Int32) (x2 : Int32) (x3 : Int32) (hI : IC σ) (h0_4 : 0 ≤ x3.toInt) (hm_4 : (2147483647 - x3.toInt).toNat < n_4 + 1) : okp (Kqe σ τ (fun _ => True)) (C_X6_at_4 N c rec_4 σ τ x1 x2 x3) := by
  unfold C_X6_at_4
  have hc := isS_rng tc
  refine ok_ite (fun c_1 => ?_) (fun c_1 => ?_)
  · simp only [fa_lt, fa_le, fa_eq] at c_1
    exact ok_r ⟨trivial, (Eq.refl σ), (Eq.refl τ)⟩
  · simp only [fa_lt, fa_le, fa_eq] at c_1
    refine ok_ite (fun c_2 => ?_) (fun c_2 => ?_)
    · simp only [fa_lt, fa_le, fa_eq] at c_2
      exact ok_r ⟨trivial, (Eq.refl σ), (Eq.refl τ)⟩
    · simp only [fa_lt, fa_le, fa_eq] at c_2
      refine ok_ck (by have : (0 : Int32).toInt = 0 := rfl; have : (6 : Int32).toInt = 6 := rfl; have := i32_rng (σ c 6); have := i32_rng x3; omega) (fun j_3 hj_3 lj_3 => ?_)
      refine ok_ite (fun c_3 => ?_) (fun c_3 => ?_)
      · simp only [fa_lt, fa_le, fa_eq] at c_3
        refine ok_nm (fun v_7 e_7 => ?_)
        refine ok_nm (fun v_8 e_8 => ?_)
        exact ok_mono (fun _ _ _ h9 => ⟨h9.1, h9.2.1.trans (Eq.refl σ), h9.2.2.trans (Eq.refl τ)⟩) (hrec_4 σ τ x1 v_7 v_8 ((ic_eq (Eq.refl σ)) hI) (by have : (0 : Int32).toInt = 0 := rfl; have : (1 : Int32).toInt = 1 := rfl; have : (6 : Int32).toInt = 6 := rfl; have := i32_rng (σ (c + 1) j_3); have := i32_rng (σ c 6); have := i32_rng v_8; have := i32_rng x1; have := i32_rng x3; have u_v_8 : v_8.toInt = (x3).toInt + 1 := (by rw [e_8]; have q := ti_add (a := x3) (b := 1) (by rw [show (1 : Int32).toInt = 1 from rfl]; omega) (by rw [show (1 : Int32).toInt = 1 from rfl]; omega); rw [q, show (1 : Int32).toInt = 1 from rfl]); omega) (by have : (1 : Int32).toInt = 1 := rfl; have : (6 : Int32).toInt = 6 := rfl; have := i32_rng (σ (c + 1) j_3); have := i32_rng (σ c 6); have := i32_rng v_8; have := i32_rng x1; have := i32_rng x3; have u_v_8 : v_8.toInt = (x3).toInt + 1 := (by rw [e_8]; have q := ti_add (a := x3) (b := 1) (by rw [show (1 : Int32).toInt = 1 from rfl]; omega) (by rw [show (1 : Int32).toInt = 1 from rfl]; omega); rw [q, show (1 : Int32).toInt = 1 from rfl]); omega))
      · simp only [fa_lt, fa_le, fa_eq] at c_3
        refine ok_nm (fun v_5 e_5 => ?_)
        refine ok_nm (fun v_6 e_6 => ?_)
        exact ok_mono (fun _ _ _ h9 => ⟨h9.1, h9.2.1.trans (Eq.refl σ), h9.2.2.trans (Eq.refl τ)⟩) (hrec_4 σ τ x1 v_5 v_6 ((ic_eq (Eq.refl σ)) hI) (by have : (0 : Int32).toInt = 0 := rfl; have : (1 : Int32).toInt = 1 := rfl; have : (6 : Int32).toInt = 6 := rfl; have := i32_rng (σ (c + 1) j_3); have := i32_rng (σ c 6); have := i32_rng v_6; have := i32_rng x1; have := i32_rng x3; have u_v_6 : v_6.toInt = (x3).toInt + 1 := (by rw [e_6]; have q := ti_add (a := x3) (b := 1) (by rw [show (1 : Int32).toInt = 1 from rfl]; omega) (by rw [show (1 : Int32).toInt = 1 from rfl]; omega); rw [q, show (1 : Int32).toInt = 1 from rfl]); omega) (by have : (1 : Int32).toInt = 1 := rfl; have : (6 : Int32).toInt = 6 := rfl; have := i32_rng (σ (c + 1) j_3); have := i32_rng (σ c 6); have := i32_rng v_6; have := i32_rng x1; have := i32_rng x3; have u_v_6 : v_6.toInt = (x3).toInt + 1 := (by rw [e_6]; have q := ti_add (a := x3) (b := 1) (by rw [show (1 : Int32).toInt = 1 from rfl]; omega) (by rw [show (1 : Int32).toInt = 1 from rfl]; omega); rw [q, show (1 : Int32).toInt = 1 from rfl]); omega))
theorem s_H_X6_at_4 (N : Nat) (hN : 4294967296 ≤ N) (c : Nat) (tc : gx_isS c) : ∀ (n : Nat) (σ : gI) (τ : gJ) (x1 : Int32) (x2 : Int32) (x3 : Int32), IC σ → (0 ≤ x3.toInt) → (2147483647 - x3.toInt).toNat < n → okp (Kqe σ τ (fun _ => True)) (H_X6_at_4 N c n σ τ x1 x2 x3) := by
  intro n
  induction n with
  | zero => intro σ τ x1 x2 x3 _ _ hm; exact absurd hm (Nat.not_lt_zero _)
  | succ n ih =>
    intro σ τ x1 x2 x3 hI h0_4 hm
    exact s_C_X6_at_4 N hN c tc (H_X6_at_4 N c n) n ih σ τ x1 x2 x3 hI h0_4 hm
set_option maxHeartbeats 2000000 in
theorem s_B_X6_at_0 (N : Nat) (hN : 4294967296 ≤ N) (c : Nat) (tc : gx_isS c) (σ : gI) (τ : gJ) (x1 : Int32) (hI : IC σ) : okp (Kqe σ τ (fun _ => True)) (B_X6_at_0 N c σ τ x1) := by
  unfold B_X6_at_0
  have hc := isS_rng tc
  exact ok_mono (fun _ _ _ h9 => ⟨h9.1, h9.2.1.trans (Eq.refl σ), h9.2.2.trans (Eq.refl τ)⟩) (s_H_X6_at_4 N hN c tc N σ τ x1 0 0 ((ic_eq (Eq.refl σ)) hI) (by have : (0 : Int32).toInt = 0 := rfl; omega) (by have : (0 : Int32).toInt = 0 := rfl; omega))
set_option maxHeartbeats 2000000 in
theorem s_B_J6_bitCount_0f7a4_0 (N : Nat) (hN : 4294967296 ≤ N) (σ : gI) (τ : gJ) (x0 : Int32) (hI : IC σ) : okp (Kqe σ τ (fun _ => True)) (B_J6_bitCount_0f7a4_0 N σ τ x0) := by
  unfold B_J6_bitCount_0f7a4_0
  refine ok_nm (fun v_1 e_1 => ?_)
  refine ok_nm (fun v_2 e_2 => ?_)
  refine ok_nm (fun v_3 e_3 => ?_)
  refine ok_nm (fun v_4 e_4 => ?_)
  refine ok_nm (fun v_5 e_5 => ?_)
  exact ok_r ⟨trivial, (Eq.refl σ), (Eq.refl τ)⟩
set_option maxHeartbeats 2000000 in
theorem s_B_X5_value_115 (N : Nat) (hN : 4294967296 ≤ N) (rec_4 : gI → gJ → Int32 → Int32 → Option (Int32 × gI × gJ)) (n_4 : Nat) (hrec_4 : ∀ (σ : gI) (τ : gJ) (x2 : Int32) (x3 : Int32), IC σ → (0 ≤ x3.toInt) → (0 ≤ x2.toInt ∧ x2.toInt ≤ 40) → (2147483647 - x3.toInt).toNat < n_4 → okp (Kq σ τ (fun _ => True)) (rec_4 σ τ x2 x3)) (σ : gI) (τ : gJ) (x3 : Int32) (x4 : Int32) (y0 : Int32) (y1 : Int32) (hI : IC σ) (h0_4 : 0 ≤ x3.toInt) (hm_4 : (2147483647 - x3.toInt).toNat < n_4 + 1) (hlt_4 : x3.toInt < 2147483647) (ht : ((y0.toInt = 0 ∧ 1 ≤ y1.toInt) ∨ (y0.toInt = 1 ∧ 2 ≤ y1.toInt)) ∧ y1.toInt < 40) : okp (Kq σ τ (fun _ => True)) (B_X5_value_115 N rec_4 σ τ x3 x4 y0 y1) := by
  unfold B_X5_value_115
  refine ok_nm (fun v_1 e_1 => ?_)
  refine ok_ck (by have : (0 : Int32).toInt = 0 := rfl; have : (1 : Int32).toInt = 1 := rfl; have : (40 : Int32).toInt = 40 := rfl; have := i32_rng v_1; have := i32_rng x3; have := i32_rng y0; have := i32_rng y1; have u_v_1 : v_1.toInt = (y1).toInt - (y0).toInt := (by rw [e_1]; exact ti_sub (by omega) (by omega)); have : (v_1 - (1 : Int32)).toInt = v_1.toInt - (1 : Int32).toInt := (ti_sub (by omega) (by omega)); have q9 := ti_sub (a := v_1) (b := 1) (by rw [show (1 : Int32).toInt = 1 from rfl]; omega) (by rw [show (1 : Int32).toInt = 1 from rfl]; omega); rw [q9, show (1 : Int32).toInt = 1 from rfl]; omega) (fun j_2 hj_2 lj_2 => ?_)
  refine ok_nm (fun v_3 e_3 => ?_)
  refine ok_ck (by have : (0 : Int32).toInt = 0 := rfl; have : (40 : Int32).toInt = 40 := rfl; have := i32_rng v_1; have := i32_rng x3; have := i32_rng y0; have := i32_rng y1; have u_v_1 : v_1.toInt = (y1).toInt - (y0).toInt := (by rw [e_1]; exact ti_sub (by omega) (by omega)); omega) (fun j_4 hj_4 lj_4 => ?_)
  refine ok_nm (fun v_5 e_5 => ?_)
  refine ok_ite (fun c_1 => ?_) (fun c_1 => ?_)
  · simp only [fa_lt, fa_le, fa_eq] at c_1
    refine ok_nm (fun σ_7 e_7 => ?_)
    have k_7 : KS σ σ_7 := ks_up (ks_rf σ) e_7 (by omega) (by omega) (by omega)
    refine ok_nm (fun v_8 e_8 => ?_)
    exact ok_mono (fun _ _ _ h9 => ⟨h9.1, ks_tr k_7 h9.2.1, kj_tr (kj_rf τ) h9.2.2⟩) (hrec_4 σ_7 τ v_1 v_8 (k_7.1.2 hI) (by have : (0 : Int32).toInt = 0 := rfl; have : (1 : Int32).toInt = 1 := rfl; have : (8 : Int32).toInt = 8 := rfl; have := i32_rng v_8; have := i32_rng x3; have := i32_rng x4; have := i32_rng y0; have := i32_rng y1; have u_v_8 : v_8.toInt = (x3).toInt + 1 := (by rw [e_8]; have q := ti_add (a := x3) (b := 1) (by rw [show (1 : Int32).toInt = 1 from rfl]; omega) (by rw [show (1 : Int32).toInt = 1 from rfl]; omega); rw [q, show (1 : Int32).toInt = 1 from rfl]); omega) (by have : (0 : Int32).toInt = 0 := rfl; have : (8 : Int32).toInt = 8 := rfl; have : (40 : Int32).toInt = 40 := rfl; have := i32_rng v_1; have := i32_rng x3; have := i32_rng x4; have := i32_rng y0; have := i32_rng y1; have u_v_1 : v_1.toInt = (y1).toInt - (y0).toInt := (by rw [e_1]; exact ti_sub (by omega) (by omega)); omega) (by have : (1 : Int32).toInt = 1 := rfl; have : (8 : Int32).toInt = 8 := rfl; have := i32_rng v_8; have := i32_rng x3; have := i32_rng x4; have := i32_rng y0; have := i32_rng y1; have u_v_8 : v_8.toInt = (x3).toInt + 1 := (by rw [e_8]; have q := ti_add (a := x3) (b := 1) (by rw [show (1 : Int32).toInt = 1 from rfl]; omega) (by rw [show (1 : Int32).toInt = 1 from rfl]; omega); rw [q, show (1 : Int32).toInt = 1 from rfl]); omega))
  · simp only [fa_lt, fa_le, fa_eq] at c_1
    refine ok_ite (fun c_2 => ?_) (fun c_2 => ?_)
    · simp only [fa_lt, fa_le, fa_eq] at c_2
      refine ok_nm (fun σ_10 e_10 => ?_)
      have k_10 : KS σ σ_10 := ks_up (ks_rf σ) e_10 (by omega) (by omega) (by omega)
      refine ok_nm (fun v_11 e_11 => ?_)
      exact ok_mono (fun _ _ _ h9 => ⟨h9.1, ks_tr k_10 h9.2.1, kj_tr (kj_rf τ) h9.2.2⟩) (hrec_4 σ_10 τ v_1 v_11 (k_10.1.2 hI) (by have : (0 : Int32).toInt = 0 := rfl; have : (1 : Int32).toInt = 1 := rfl; have : (8 : Int32).toInt = 8 := rfl; have : (9 : Int32).toInt = 9 := rfl; have := i32_rng v_11; have := i32_rng x3; have := i32_rng x4; have := i32_rng y0; have := i32_rng y1; have u_v_11 : v_11.toInt = (x3).toInt + 1 := (by rw [e_11]; have q := ti_add (a := x3) (b := 1) (by rw [show (1 : Int32).toInt = 1 from rfl]; omega) (by rw [show (1 : Int32).toInt = 1 from rfl]; omega); rw [q, show (1 : Int32).toInt = 1 from rfl]); omega) (by have : (0 : Int32).toInt = 0 := rfl; have : (8 : Int32).toInt = 8 := rfl; have : (9 : Int32).toInt = 9 := rfl; have : (40 : Int32).toInt = 40 := rfl; have := i32_rng v_1; have := i32_rng x3; have := i32_rng x4; have := i32_rng y0; have := i32_rng y1; have u_v_1 : v_1.toInt = (y1).toInt - (y0).toInt := (by rw [e_1]; exact ti_sub (by omega) (by omega)); omega) (by have : (1 : Int32).toInt = 1 := rfl; have : (8 : Int32).toInt = 8 := rfl; have : (9 : Int32).toInt = 9 := rfl; have := i32_rng v_11; have := i32_rng x3; have := i32_rng x4; have := i32_rng y0; have := i32_rng y1; have u_v_11 : v_11.toInt = (x3).toInt + 1 := (by rw [e_11]; have q := ti_add (a := x3) (b := 1) (by rw [show (1 : Int32).toInt = 1 from rfl]; omega) (by rw [show (1 : Int32).toInt = 1 from rfl]; omega); rw [q, show (1 : Int32).toInt = 1 from rfl]); omega))
    · simp only [fa_lt, fa_le, fa_eq] at c_2
      refine ok_ite (fun c_3 => ?_) (fun c_3 => ?_)
      · simp only [fa_lt, fa_le, fa_eq] at c_3
        refine ok_nm (fun σ_13 e_13 => ?_)
        have k_13 : KS σ σ_13 := ks_up (ks_rf σ) e_13 (by omega) (by omega) (by omega)
        refine ok_nm (fun v_14 e_14 => ?_)
        exact ok_mono (fun _ _ _ h9 => ⟨h9.1, ks_tr k_13 h9.2.1, kj_tr (kj_rf τ) h9.2.2⟩) (hrec_4 σ_13 τ v_1 v_14 (k_13.1.2 hI) (by have : (0 : Int32).toInt = 0 := rfl; have : (1 : Int32).toInt = 1 := rfl; have : (8 : Int32).toInt = 8 := rfl; have : (9 : Int32).toInt = 9 := rfl; have : (10 : Int32).toInt = 10 := rfl; have := i32_rng v_14; have := i32_rng x3; have := i32_rng x4; have := i32_rng y0; have := i32_rng y1; have u_v_14 : v_14.toInt = (x3).toInt + 1 := (by rw [e_14]; have q := ti_add (a := x3) (b := 1) (by rw [show (1 : Int32).toInt = 1 from rfl]; omega) (by rw [show (1 : Int32).toInt = 1 from rfl]; omega); rw [q, show (1 : Int32).toInt = 1 from rfl]); omega) (by have : (0 : Int32).toInt = 0 := rfl; have : (8 : Int32).toInt = 8 := rfl; have : (9 : Int32).toInt = 9 := rfl; have : (10 : Int32).toInt = 10 := rfl; have : (40 : Int32).toInt = 40 := rfl; have := i32_rng v_1; have := i32_rng x3; have := i32_rng x4; have := i32_rng y0; have := i32_rng y1; have u_v_1 : v_1.toInt = (y1).toInt - (y0).toInt := (by rw [e_1]; exact ti_sub (by omega) (by omega)); omega) (by have : (1 : Int32).toInt = 1 := rfl; have : (8 : Int32).toInt = 8 := rfl; have : (9 : Int32).toInt = 9 := rfl; have : (10 : Int32).toInt = 10 := rfl; have := i32_rng v_14; have := i32_rng x3; have := i32_rng x4; have := i32_rng y0; have := i32_rng y1; have u_v_14 : v_14.toInt = (x3).toInt + 1 := (by rw [e_14]; have q := ti_add (a := x3) (b := 1) (by rw [show (1 : Int32).toInt = 1 from rfl]; omega) (by rw [show (1 : Int32).toInt = 1 from rfl]; omega); rw [q, show (1 : Int32).toInt = 1 from rfl]); omega))
      · simp only [fa_lt, fa_le, fa_eq] at c_3
        refine ok_ite (fun c_4 => ?_) (fun c_4 => ?_)
        · simp only [fa_lt, fa_le, fa_eq] at c_4
          refine ok_nm (fun σ_16 e_16 => ?_)
          have k_16 : KS σ σ_16 := ks_up (ks_rf σ) e_16 (by omega) (by omega) (by omega)
          refine ok_nm (fun v_17 e_17 => ?_)
          exact ok_mono (fun _ _ _ h9 => ⟨h9.1, ks_tr k_16 h9.2.1, kj_tr (kj_rf τ) h9.2.2⟩) (hrec_4 σ_16 τ v_1 v_17 (k_16.1.2 hI) (by have : (0 : Int32).toInt = 0 := rfl; have : (1 : Int32).toInt = 1 := rfl; have : (8 : Int32).toInt = 8 := rfl; have : (9 : Int32).toInt = 9 := rfl; have : (10 : Int32).toInt = 10 := rfl; have : (11 : Int32).toInt = 11 := rfl; have := i32_rng v_17; have := i32_rng x3; have := i32_rng x4; have := i32_rng y0; have := i32_rng y1; have u_v_17 : v_17.toInt = (x3).toInt + 1 := (by rw [e_17]; have q := ti_add (a := x3) (b := 1) (by rw [show (1 : Int32).toInt = 1 from rfl]; omega) (by rw [show (1 : Int32).toInt = 1 from rfl]; omega); rw [q, show (1 : Int32).toInt = 1 from rfl]); omega) (by have : (0 : Int32).toInt = 0 := rfl; have : (8 : Int32).toInt = 8 := rfl; have : (9 : Int32).toInt = 9 := rfl; have : (10 : Int32).toInt = 10 := rfl; have : (11 : Int32).toInt = 11 := rfl; have : (40 : Int32).toInt = 40 := rfl; have := i32_rng v_1; have := i32_rng x3; have := i32_rng x4; have := i32_rng y0; have := i32_rng y1; have u_v_1 : v_1.toInt = (y1).toInt - (y0).toInt := (by rw [e_1]; exact ti_sub (by omega) (by omega)); omega) (by have : (1 : Int32).toInt = 1 := rfl; have : (8 : Int32).toInt = 8 := rfl; have : (9 : Int32).toInt = 9 := rfl; have : (10 : Int32).toInt = 10 := rfl; have : (11 : Int32).toInt = 11 := rfl; have := i32_rng v_17; have := i32_rng x3; have := i32_rng x4; have := i32_rng y0; have := i32_rng y1; have u_v_17 : v_17.toInt = (x3).toInt + 1 := (by rw [e_17]; have q := ti_add (a := x3) (b := 1) (by rw [show (1 : Int32).toInt = 1 from rfl]; omega) (by rw [show (1 : Int32).toInt = 1 from rfl]; omega); rw [q, show (1 : Int32).toInt = 1 from rfl]); omega))
        · simp only [fa_lt, fa_le, fa_eq] at c_4
          refine ok_ite (fun c_5 => ?_) (fun c_5 => ?_)
          · simp only [fa_lt, fa_le, fa_eq] at c_5
            refine ok_ite (fun c_6 => ?_) (fun c_6 => ?_)
            · simp only [fa_lt, fa_le, fa_eq] at c_6
              refine ok_nm (fun σ_23 e_23 => ?_)
              have k_23 : KS σ σ_23 := ks_up (ks_rf σ) e_23 (by omega) (by omega) (by omega)
              refine ok_nm (fun v_24 e_24 => ?_)
              exact ok_mono (fun _ _ _ h9 => ⟨h9.1, ks_tr k_23 h9.2.1, kj_tr (kj_rf τ) h9.2.2⟩) (hrec_4 σ_23 τ v_1 v_24 (k_23.1.2 hI) (by have : (0 : Int32).toInt = 0 := rfl; have : (1 : Int32).toInt = 1 := rfl; have : (8 : Int32).toInt = 8 := rfl; have : (9 : Int32).toInt = 9 := rfl; have : (10 : Int32).toInt = 10 := rfl; have : (11 : Int32).toInt = 11 := rfl; have : (12 : Int32).toInt = 12 := rfl; have : (19 : Int32).toInt = 19 := rfl; have := i32_rng (σ 19 j_4); have := i32_rng v_24; have := i32_rng v_5; have := i32_rng x3; have := i32_rng x4; have := i32_rng y0; have := i32_rng y1; have u_v_24 : v_24.toInt = (x3).toInt + 1 := (by rw [e_24]; have q := ti_add (a := x3) (b := 1) (by rw [show (1 : Int32).toInt = 1 from rfl]; omega) (by rw [show (1 : Int32).toInt = 1 from rfl]; omega); rw [q, show (1 : Int32).toInt = 1 from rfl]); have u_v_5 : v_5.toInt = (σ 19 j_4).toInt := (by rw [e_5]); omega) (by have : (0 : Int32).toInt = 0 := rfl; have : (8 : Int32).toInt = 8 := rfl; have : (9 : Int32).toInt = 9 := rfl; have : (10 : Int32).toInt = 10 := rfl; have : (11 : Int32).toInt = 11 := rfl; have : (12 : Int32).toInt = 12 := rfl; have : (19 : Int32).toInt = 19 := rfl; have : (40 : Int32).toInt = 40 := rfl; have := i32_rng (σ 19 j_4); have := i32_rng v_1; have := i32_rng v_5; have := i32_rng x3; have := i32_rng x4; have := i32_rng y0; have := i32_rng y1; have u_v_1 : v_1.toInt = (y1).toInt - (y0).toInt := (by rw [e_1]; exact ti_sub (by omega) (by omega)); have u_v_5 : v_5.toInt = (σ 19 j_4).toInt := (by rw [e_5]); omega) (by have : (0 : Int32).toInt = 0 := rfl; have : (1 : Int32).toInt = 1 := rfl; have : (8 : Int32).toInt = 8 := rfl; have : (9 : Int32).toInt = 9 := rfl; have : (10 : Int32).toInt = 10 := rfl; have : (11 : Int32).toInt = 11 := rfl; have : (12 : Int32).toInt = 12 := rfl; have : (19 : Int32).toInt = 19 := rfl; have := i32_rng (σ 19 j_4); have := i32_rng v_24; have := i32_rng v_5; have := i32_rng x3; have := i32_rng x4; have := i32_rng y0; have := i32_rng y1; have u_v_24 : v_24.toInt = (x3).toInt + 1 := (by rw [e_24]; have q := ti_add (a := x3) (b := 1) (by rw [show (1 : Int32).toInt = 1 from rfl]; omega) (by rw [show (1 : Int32).toInt = 1 from rfl]; omega); rw [q, show (1 : Int32).toInt = 1 from rfl]); have u_v_5 : v_5.toInt = (σ 19 j_4).toInt := (by rw [e_5]); omega))
            · simp only [fa_lt, fa_le, fa_eq] at c_6
              refine ok_dz (fun h9 => by have h8 := (fa_eq _ _).mp h9; rw [show (0 : Int32).toInt = 0 from rfl] at h8; exact absurd h8 (by have : (0 : Int32).toInt = 0 := rfl; have : (8 : Int32).toInt = 8 := rfl; have : (9 : Int32).toInt = 9 := rfl; have : (10 : Int32).toInt = 10 := rfl; have : (11 : Int32).toInt = 11 := rfl; have : (12 : Int32).toInt = 12 := rfl; have : (19 : Int32).toInt = 19 := rfl; have := i32_rng (σ 19 j_4); have := i32_rng v_5; have := i32_rng x3; have := i32_rng x4; have := i32_rng y0; have := i32_rng y1; have u_v_5 : v_5.toInt = (σ 19 j_4).toInt := (by rw [e_5]); omega)) ?_
              refine ok_nm (fun σ_21 e_21 => ?_)
              have k_21 : KS σ σ_21 := ks_up (ks_rf σ) e_21 (by omega) (by omega) (by omega)
              refine ok_nm (fun v_22 e_22 => ?_)
              exact ok_mono (fun _ _ _ h9 => ⟨h9.1, ks_tr k_21 h9.2.1, kj_tr (kj_rf τ) h9.2.2⟩) (hrec_4 σ_21 τ v_1 v_22 (k_21.1.2 hI) (by have : (0 : Int32).toInt = 0 := rfl; have : (1 : Int32).toInt = 1 := rfl; have : (8 : Int32).toInt = 8 := rfl; have : (9 : Int32).toInt = 9 := rfl; have : (10 : Int32).toInt = 10 := rfl; have : (11 : Int32).toInt = 11 := rfl; have : (12 : Int32).toInt = 12 := rfl; have : (19 : Int32).toInt = 19 := rfl; have := i32_rng (σ 19 j_4); have := i32_rng v_22; have := i32_rng v_5; have := i32_rng x3; have := i32_rng x4; have := i32_rng y0; have := i32_rng y1; have u_v_22 : v_22.toInt = (x3).toInt + 1 := (by rw [e_22]; have q := ti_add (a := x3) (b := 1) (by rw [show (1 : Int32).toInt = 1 from rfl]; omega) (by rw [show (1 : Int32).toInt = 1 from rfl]; omega); rw [q, show (1 : Int32).toInt = 1 from rfl]); have u_v_5 : v_5.toInt = (σ 19 j_4).toInt := (by rw [e_5]); omega) (by have : (0 : Int32).toInt = 0 := rfl; have : (8 : Int32).toInt = 8 := rfl; have : (9 : Int32).toInt = 9 := rfl; have : (10 : Int32).toInt = 10 := rfl; have : (11 : Int32).toInt = 11 := rfl; have : (12 : Int32).toInt = 12 := rfl; have : (19 : Int32).toInt = 19 := rfl; have : (40 : Int32).toInt = 40 := rfl; have := i32_rng (σ 19 j_4); have := i32_rng v_1; have := i32_rng v_5; have := i32_rng x3; have := i32_rng x4; have := i32_rng y0; have := i32_rng y1; have u_v_1 : v_1.toInt = (y1).toInt - (y0).toInt := (by rw [e_1]; exact ti_sub (by omega) (by omega)); have u_v_5 : v_5.toInt = (σ 19 j_4).toInt := (by rw [e_5]); omega) (by have : (0 : Int32).toInt = 0 := rfl; have : (1 : Int32).toInt = 1 := rfl; have : (8 : Int32).toInt = 8 := rfl; have : (9 : Int32).toInt = 9 := rfl; have : (10 : Int32).toInt = 10 := rfl; have : (11 : Int32).toInt = 11 := rfl; have : (12 : Int32).toInt = 12 := rfl; have : (19 : Int32).toInt = 19 := rfl; have := i32_rng (σ 19 j_4); have := i32_rng v_22; have := i32_rng v_5; have := i32_rng x3; have := i32_rng x4; have := i32_rng y0; have := i32_rng y1; have u_v_22 : v_22.toInt = (x3).toInt + 1 := (by rw [e_22]; have q := ti_add (a := x3) (b := 1) (by rw [show (1 : Int32).toInt = 1 from rfl]; omega) (by rw [show (1 : Int32).toInt = 1 from rfl]; omega); rw [q, show (1 : Int32).toInt = 1 from rfl]); have u_v_5 : v_5.toInt = (σ 19 j_4).toInt := (by rw [e_5]); omega))
          · simp only [fa_lt, fa_le, fa_eq] at c_5
            refine ok_ite (fun c_7 => ?_) (fun c_7 => ?_)
            · simp only [fa_lt, fa_le, fa_eq] at c_7
              refine ok_ite (fun c_8 => ?_) (fun c_8 => ?_)
              · simp only [fa_lt, fa_le, fa_eq] at c_8
                refine ok_nm (fun σ_27 e_27 => ?_)
                have k_27 : KS σ σ_27 := ks_up (ks_rf σ) e_27 (by omega) (by omega) (by omega)
                refine ok_nm (fun v_28 e_28 => ?_)
                exact ok_mono (fun _ _ _ h9 => ⟨h9.1, ks_tr k_27 h9.2.1, kj_tr (kj_rf τ) h9.2.2⟩) (hrec_4 σ_27 τ v_1 v_28 (k_27.1.2 hI) (by have : (0 : Int32).toInt = 0 := rfl; have : (1 : Int32).toInt = 1 := rfl; have : (8 : Int32).toInt = 8 := rfl; have : (9 : Int32).toInt = 9 := rfl; have : (10 : Int32).toInt = 10 := rfl; have : (11 : Int32).toInt = 11 := rfl; have : (12 : Int32).toInt = 12 := rfl; have : (13 : Int32).toInt = 13 := rfl; have : (19 : Int32).toInt = 19 := rfl; have := i32_rng (σ 19 j_2); have := i32_rng (σ 19 j_4); have := i32_rng v_28; have := i32_rng v_3; have := i32_rng v_5; have := i32_rng x3; have := i32_rng x4; have := i32_rng y0; have := i32_rng y1; have u_v_28 : v_28.toInt = (x3).toInt + 1 := (by rw [e_28]; have q := ti_add (a := x3) (b := 1) (by rw [show (1 : Int32).toInt = 1 from rfl]; omega) (by rw [show (1 : Int32).toInt = 1 from rfl]; omega); rw [q, show (1 : Int32).toInt = 1 from rfl]); have u_v_3 : v_3.toInt = (σ 19 j_2).toInt := (by rw [e_3]); have u_v_5 : v_5.toInt = (σ 19 j_4).toInt := (by rw [e_5]); omega) (by have : (0 : Int32).toInt = 0 := rfl; have : (8 : Int32).toInt = 8 := rfl; have : (9 : Int32).toInt = 9 := rfl; have : (10 : Int32).toInt = 10 := rfl; have : (11 : Int32).toInt = 11 := rfl; have : (12 : Int32).toInt = 12 := rfl; have : (13 : Int32).toInt = 13 := rfl; have : (19 : Int32).toInt = 19 := rfl; have : (40 : Int32).toInt = 40 := rfl; have := i32_rng (σ 19 j_2); have := i32_rng (σ 19 j_4); have := i32_rng v_1; have := i32_rng v_3; have := i32_rng v_5; have := i32_rng x3; have := i32_rng x4; have := i32_rng y0; have := i32_rng y1; have u_v_1 : v_1.toInt = (y1).toInt - (y0).toInt := (by rw [e_1]; exact ti_sub (by omega) (by omega)); have u_v_3 : v_3.toInt = (σ 19 j_2).toInt := (by rw [e_3]); have u_v_5 : v_5.toInt = (σ 19 j_4).toInt := (by rw [e_5]); omega) (by have : (1 : Int32).toInt = 1 := rfl; have : (8 : Int32).toInt = 8 := rfl; have : (9 : Int32).toInt = 9 := rfl; have : (10 : Int32).toInt = 10 := rfl; have : (11 : Int32).toInt = 11 := rfl; have : (12 : Int32).toInt = 12 := rfl; have : (13 : Int32).toInt = 13 := rfl; have : (19 : Int32).toInt = 19 := rfl; have := i32_rng (σ 19 j_2); have := i32_rng (σ 19 j_4); have := i32_rng v_28; have := i32_rng v_3; have := i32_rng v_5; have := i32_rng x3; have := i32_rng x4; have := i32_rng y0; have := i32_rng y1; have u_v_28 : v_28.toInt = (x3).toInt + 1 := (by rw [e_28]; have q := ti_add (a := x3) (b := 1) (by rw [show (1 : Int32).toInt = 1 from rfl]; omega) (by rw [show (1 : Int32).toInt = 1 from rfl]; omega); rw [q, show (1 : Int32).toInt = 1 from rfl]); have u_v_3 : v_3.toInt = (σ 19 j_2).toInt := (by rw [e_3]); have u_v_5 : v_5.toInt = (σ 19 j_4).toInt := (by rw [e_5]); omega))
              · simp only [fa_lt, fa_le, fa_eq] at c_8
                refine ok_nm (fun σ_29 e_29 => ?_)
                have k_29 : KS σ σ_29 := ks_up (ks_rf σ) e_29 (by omega) (by omega) (by omega)
                refine ok_nm (fun v_30 e_30 => ?_)
                exact ok_mono (fun _ _ _ h9 => ⟨h9.1, ks_tr k_29 h9.2.1, kj_tr (kj_rf τ) h9.2.2⟩) (hrec_4 σ_29 τ v_1 v_30 (k_29.1.2 hI) (by have : (0 : Int32).toInt = 0 := rfl; have : (1 : Int32).toInt = 1 := rfl; have : (8 : Int32).toInt = 8 := rfl; have : (9 : Int32).toInt = 9 := rfl; have : (10 : Int32).toInt = 10 := rfl; have : (11 : Int32).toInt = 11 := rfl; have : (12 : Int32).toInt = 12 := rfl; have : (13 : Int32).toInt = 13 := rfl; have : (19 : Int32).toInt = 19 := rfl; have := i32_rng (σ 19 j_2); have := i32_rng (σ 19 j_4); have := i32_rng v_3; have := i32_rng v_30; have := i32_rng v_5; have := i32_rng x3; have := i32_rng x4; have := i32_rng y0; have := i32_rng y1; have u_v_30 : v_30.toInt = (x3).toInt + 1 := (by rw [e_30]; have q := ti_add (a := x3) (b := 1) (by rw [show (1 : Int32).toInt = 1 from rfl]; omega) (by rw [show (1 : Int32).toInt = 1 from rfl]; omega); rw [q, show (1 : Int32).toInt = 1 from rfl]); have u_v_3 : v_3.toInt = (σ 19 j_2).toInt := (by rw [e_3]); have u_v_5 : v_5.toInt = (σ 19 j_4).toInt := (by rw [e_5]); omega) (by have : (0 : Int32).toInt = 0 := rfl; have : (8 : Int32).toInt = 8 := rfl; have : (9 : Int32).toInt = 9 := rfl; have : (10 : Int32).toInt = 10 := rfl; have : (11 : Int32).toInt = 11 := rfl; have : (12 : Int32).toInt = 12 := rfl; have : (13 : Int32).toInt = 13 := rfl; have : (19 : Int32).toInt = 19 := rfl; have : (40 : Int32).toInt = 40 := rfl; have := i32_rng (σ 19 j_2); have := i32_rng (σ 19 j_4); have := i32_rng v_1; have := i32_rng v_3; have := i32_rng v_5; have := i32_rng x3; have := i32_rng x4; have := i32_rng y0; have := i32_rng y1; have u_v_1 : v_1.toInt = (y1).toInt - (y0).toInt := (by rw [e_1]; exact ti_sub (by omega) (by omega)); have u_v_3 : v_3.toInt = (σ 19 j_2).toInt := (by rw [e_3]); have u_v_5 : v_5.toInt = (σ 19 j_4).toInt := (by rw [e_5]); omega) (by have : (1 : Int32).toInt = 1 := rfl; have : (8 : Int32).toInt = 8 := rfl; have : (9 : Int32).toInt = 9 := rfl; have : (10 : Int32).toInt = 10 := rfl; have : (11 : Int32).toInt = 11 := rfl; have : (12 : Int32).toInt = 12 := rfl; have : (13 : Int32).toInt = 13 := rfl; have : (19 : Int32).toInt = 19 := rfl; have := i32_rng (σ 19 j_2); have := i32_rng (σ 19 j_4); have := i32_rng v_3; have := i32_rng v_30; have := i32_rng v_5; have := i32_rng x3; have := i32_rng x4; have := i32_rng y0; have := i32_rng y1; have u_v_30 : v_30.toInt = (x3).toInt + 1 := (by rw [e_30]; have q := ti_add (a := x3) (b := 1) (by rw [show (1 : Int32).toInt = 1 from rfl]; omega) (by rw [show (1 : Int32).toInt = 1 from rfl]; omega); rw [q, show (1 : Int32).toInt = 1 from rfl]); have u_v_3 : v_3.toInt = (σ 19 j_2).toInt := (by rw [e_3]); have u_v_5 : v_5.toInt = (σ 19 j_4).toInt := (by rw [e_5]); omega))
            · simp only [fa_lt, fa_le, fa_eq] at c_7
              refine ok_ite (fun c_9 => ?_) (fun c_9 => ?_)
              · simp only [fa_lt, fa_le, fa_eq] at c_9
                refine ok_ite (fun c_10 => ?_) (fun c_10 => ?_)
                · simp only [fa_lt, fa_le, fa_eq] at c_10
                  refine ok_nm (fun σ_33 e_33 => ?_)
                  have k_33 : KS σ σ_33 := ks_up (ks_rf σ) e_33 (by omega) (by omega) (by omega)
                  refine ok_nm (fun v_34 e_34 => ?_)
                  exact ok_mono (fun _ _ _ h9 => ⟨h9.1, ks_tr k_33 h9.2.1, kj_tr (kj_rf τ) h9.2.2⟩) (hrec_4 σ_33 τ v_1 v_34 (k_33.1.2 hI) (by have : (0 : Int32).toInt = 0 := rfl; have : (1 : Int32).toInt = 1 := rfl; have : (8 : Int32).toInt = 8 := rfl; have : (9 : Int32).toInt = 9 := rfl; have : (10 : Int32).toInt = 10 := rfl; have : (11 : Int32).toInt = 11 := rfl; have : (12 : Int32).toInt = 12 := rfl; have : (13 : Int32).toInt = 13 := rfl; have : (14 : Int32).toInt = 14 := rfl; have : (19 : Int32).toInt = 19 := rfl; have := i32_rng (σ 19 j_4); have := i32_rng (σ 19 j_2); have := i32_rng v_3; have := i32_rng v_34; have := i32_rng v_5; have := i32_rng x3; have := i32_rng x4; have := i32_rng y0; have := i32_rng y1; have u_v_34 : v_34.toInt = (x3).toInt + 1 := (by rw [e_34]; have q := ti_add (a := x3) (b := 1) (by rw [show (1 : Int32).toInt = 1 from rfl]; omega) (by rw [show (1 : Int32).toInt = 1 from rfl]; omega); rw [q, show (1 : Int32).toInt = 1 from rfl]); have u_v_5 : v_5.toInt = (σ 19 j_4).toInt := (by rw [e_5]); have u_v_3 : v_3.toInt = (σ 19 j_2).toInt := (by rw [e_3]); omega) (by have : (0 : Int32).toInt = 0 := rfl; have : (8 : Int32).toInt = 8 := rfl; have : (9 : Int32).toInt = 9 := rfl; have : (10 : Int32).toInt = 10 := rfl; have : (11 : Int32).toInt = 11 := rfl; have : (12 : Int32).toInt = 12 := rfl; have : (13 : Int32).toInt = 13 := rfl; have : (14 : Int32).toInt = 14 := rfl; have : (19 : Int32).toInt = 19 := rfl; have : (40 : Int32).toInt = 40 := rfl; have := i32_rng (σ 19 j_4); have := i32_rng (σ 19 j_2); have := i32_rng v_1; have := i32_rng v_3; have := i32_rng v_5; have := i32_rng x3; have := i32_rng x4; have := i32_rng y0; have := i32_rng y1; have u_v_1 : v_1.toInt = (y1).toInt - (y0).toInt := (by rw [e_1]; exact ti_sub (by omega) (by omega)); have u_v_5 : v_5.toInt = (σ 19 j_4).toInt := (by rw [e_5]); have u_v_3 : v_3.toInt = (σ 19 j_2).toInt := (by rw [e_3]); omega) (by have : (1 : Int32).toInt = 1 := rfl; have : (8 : Int32).toInt = 8 := rfl; have : (9 : Int32).toInt = 9 := rfl; have : (10 : Int32).toInt = 10 := rfl; have : (11 : Int32).toInt = 11 := rfl; have : (12 : Int32).toInt = 12 := rfl; have : (13 : Int32).toInt = 13 := rfl; have : (14 : Int32).toInt = 14 := rfl; have : (19 : Int32).toInt = 19 := rfl; have := i32_rng (σ 19 j_4); have := i32_rng (σ 19 j_2); have := i32_rng v_3; have := i32_rng v_34; have := i32_rng v_5; have := i32_rng x3; have := i32_rng x4; have := i32_rng y0; have := i32_rng y1; have u_v_34 : v_34.toInt = (x3).toInt + 1 := (by rw [e_34]; have q := ti_add (a := x3) (b := 1) (by rw [show (1 : Int32).toInt = 1 from rfl]; omega) (by rw [show (1 : Int32).toInt = 1 from rfl]; omega); rw [q, show (1 : Int32).toInt = 1 from rfl]); have u_v_5 : v_5.toInt = (σ 19 j_4).toInt := (by rw [e_5]); have u_v_3 : v_3.toInt = (σ 19 j_2).toInt := (by rw [e_3]); omega))
                · simp only [fa_lt, fa_le, fa_eq] at c_10
                  refine ok_nm (fun σ_35 e_35 => ?_)
                  have k_35 : KS σ σ_35 := ks_up (ks_rf σ) e_35 (by omega) (by omega) (by omega)
                  refine ok_nm (fun v_36 e_36 => ?_)
                  exact ok_mono (fun _ _ _ h9 => ⟨h9.1, ks_tr k_35 h9.2.1, kj_tr (kj_rf τ) h9.2.2⟩) (hrec_4 σ_35 τ v_1 v_36 (k_35.1.2 hI) (by have : (0 : Int32).toInt = 0 := rfl; have : (1 : Int32).toInt = 1 := rfl; have : (8 : Int32).toInt = 8 := rfl; have : (9 : Int32).toInt = 9 := rfl; have : (10 : Int32).toInt = 10 := rfl; have : (11 : Int32).toInt = 11 := rfl; have : (12 : Int32).toInt = 12 := rfl; have : (13 : Int32).toInt = 13 := rfl; have : (14 : Int32).toInt = 14 := rfl; have : (19 : Int32).toInt = 19 := rfl; have := i32_rng (σ 19 j_4); have := i32_rng (σ 19 j_2); have := i32_rng v_3; have := i32_rng v_36; have := i32_rng v_5; have := i32_rng x3; have := i32_rng x4; have := i32_rng y0; have := i32_rng y1; have u_v_36 : v_36.toInt = (x3).toInt + 1 := (by rw [e_36]; have q := ti_add (a := x3) (b := 1) (by rw [show (1 : Int32).toInt = 1 from rfl]; omega) (by rw [show (1 : Int32).toInt = 1 from rfl]; omega); rw [q, show (1 : Int32).toInt = 1 from rfl]); have u_v_5 : v_5.toInt = (σ 19 j_4).toInt := (by rw [e_5]); have u_v_3 : v_3.toInt = (σ 19 j_2).toInt := (by rw [e_3]); omega) (by have : (0 : Int32).toInt = 0 := rfl; have : (8 : Int32).toInt = 8 := rfl; have : (9 : Int32).toInt = 9 := rfl; have : (10 : Int32).toInt = 10 := rfl; have : (11 : Int32).toInt = 11 := rfl; have : (12 : Int32).toInt = 12 := rfl; have : (13 : Int32).toInt = 13 := rfl; have : (14 : Int32).toInt = 14 := rfl; have : (19 : Int32).toInt = 19 := rfl; have : (40 : Int32).toInt = 40 := rfl; have := i32_rng (σ 19 j_4); have := i32_rng (σ 19 j_2); have := i32_rng v_1; have := i32_rng v_3; have := i32_rng v_5; have := i32_rng x3; have := i32_rng x4; have := i32_rng y0; have := i32_rng y1; have u_v_1 : v_1.toInt = (y1).toInt - (y0).toInt := (by rw [e_1]; exact ti_sub (by omega) (by omega)); have u_v_5 : v_5.toInt = (σ 19 j_4).toInt := (by rw [e_5]); have u_v_3 : v_3.toInt = (σ 19 j_2).toInt := (by rw [e_3]); omega) (by have : (1 : Int32).toInt = 1 := rfl; have : (8 : Int32).toInt = 8 := rfl; have : (9 : Int32).toInt = 9 := rfl; have : (10 : Int32).toInt = 10 := rfl; have : (11 : Int32).toInt = 11 := rfl; have : (12 : Int32).toInt = 12 := rfl; have : (13 : Int32).toInt = 13 := rfl; have : (14 : Int32).toInt = 14 := rfl; have : (19 : Int32).toInt = 19 := rfl; have := i32_rng (σ 19 j_4); have := i32_rng (σ 19 j_2); have := i32_rng v_3; have := i32_rng v_36; have := i32_rng v_5; have := i32_rng x3; have := i32_rng x4; have := i32_rng y0; have := i32_rng y1; have u_v_36 : v_36.toInt = (x3).toInt + 1 := (by rw [e_36]; have q := ti_add (a := x3) (b := 1) (by rw [show (1 : Int32).toInt = 1 from rfl]; omega) (by rw [show (1 : Int32).toInt = 1 from rfl]; omega); rw [q, show (1 : Int32).toInt = 1 from rfl]); have u_v_5 : v_5.toInt = (σ 19 j_4).toInt := (by rw [e_5]); have u_v_3 : v_3.toInt = (σ 19 j_2).toInt := (by rw [e_3]); omega))
              · simp only [fa_lt, fa_le, fa_eq] at c_9
                refine ok_ite (fun c_11 => ?_) (fun c_11 => ?_)
                · simp only [fa_lt, fa_le, fa_eq] at c_11
                  refine ok_nm (fun σ_40 e_40 => ?_)
                  have k_40 : KS σ σ_40 := ks_up (ks_rf σ) e_40 (by omega) (by omega) (by omega)
                  refine ok_nm (fun v_41 e_41 => ?_)
                  exact ok_mono (fun _ _ _ h9 => ⟨h9.1, ks_tr k_40 h9.2.1, kj_tr (kj_rf τ) h9.2.2⟩) (hrec_4 σ_40 τ v_1 v_41 (k_40.1.2 hI) (by have : (0 : Int32).toInt = 0 := rfl; have : (1 : Int32).toInt = 1 := rfl; have : (8 : Int32).toInt = 8 := rfl; have : (9 : Int32).toInt = 9 := rfl; have : (10 : Int32).toInt = 10 := rfl; have : (11 : Int32).toInt = 11 := rfl; have : (12 : Int32).toInt = 12 := rfl; have : (13 : Int32).toInt = 13 := rfl; have : (14 : Int32).toInt = 14 := rfl; have : (19 : Int32).toInt = 19 := rfl; have := i32_rng (σ 19 j_4); have := i32_rng (σ 19 j_2); have := i32_rng v_3; have := i32_rng v_41; have := i32_rng v_5; have := i32_rng x3; have := i32_rng x4; have := i32_rng y0; have := i32_rng y1; have u_v_41 : v_41.toInt = (x3).toInt + 1 := (by rw [e_41]; have q := ti_add (a := x3) (b := 1) (by rw [show (1 : Int32).toInt = 1 from rfl]; omega) (by rw [show (1 : Int32).toInt = 1 from rfl]; omega); rw [q, show (1 : Int32).toInt = 1 from rfl]); have u_v_5 : v_5.toInt = (σ 19 j_4).toInt := (by rw [e_5]); have u_v_3 : v_3.toInt = (σ 19 j_2).toInt := (by rw [e_3]); omega) (by have : (0 : Int32).toInt = 0 := rfl; have : (8 : Int32).toInt = 8 := rfl; have : (9 : Int32).toInt = 9 := rfl; have : (10 : Int32).toInt = 10 := rfl; have : (11 : Int32).toInt = 11 := rfl; have : (12 : Int32).toInt = 12 := rfl; have : (13 : Int32).toInt = 13 := rfl; have : (14 : Int32).toInt = 14 := rfl; have : (19 : Int32).toInt = 19 := rfl; have : (40 : Int32).toInt = 40 := rfl; have := i32_rng (σ 19 j_4); have := i32_rng (σ 19 j_2); have := i32_rng v_1; have := i32_rng v_3; have := i32_rng v_5; have := i32_rng x3; have := i32_rng x4; have := i32_rng y0; have := i32_rng y1; have u_v_1 : v_1.toInt = (y1).toInt - (y0).toInt := (by rw [e_1]; exact ti_sub (by omega) (by omega)); have u_v_5 : v_5.toInt = (σ 19 j_4).toInt := (by rw [e_5]); have u_v_3 : v_3.toInt = (σ 19 j_2).toInt := (by rw [e_3]); omega) (by have : (1 : Int32).toInt = 1 := rfl; have : (8 : Int32).toInt = 8 := rfl; have : (9 : Int32).toInt = 9 := rfl; have : (10 : Int32).toInt = 10 := rfl; have : (11 : Int32).toInt = 11 := rfl; have : (12 : Int32).toInt = 12 := rfl; have : (13 : Int32).toInt = 13 := rfl; have : (14 : Int32).toInt = 14 := rfl; have : (19 : Int32).toInt = 19 := rfl; have := i32_rng (σ 19 j_4); have := i32_rng (σ 19 j_2); have := i32_rng v_3; have := i32_rng v_41; have := i32_rng v_5; have := i32_rng x3; have := i32_rng x4; have := i32_rng y0; have := i32_rng y1; have u_v_41 : v_41.toInt = (x3).toInt + 1 := (by rw [e_41]; have q := ti_add (a := x3) (b := 1) (by rw [show (1 : Int32).toInt = 1 from rfl]; omega) (by rw [show (1 : Int32).toInt = 1 from rfl]; omega); rw [q, show (1 : Int32).toInt = 1 from rfl]); have u_v_5 : v_5.toInt = (σ 19 j_4).toInt := (by rw [e_5]); have u_v_3 : v_3.toInt = (σ 19 j_2).toInt := (by rw [e_3]); omega))
                · simp only [fa_lt, fa_le, fa_eq] at c_11
                  refine ok_nm (fun σ_38 e_38 => ?_)
                  have k_38 : KS σ σ_38 := ks_up (ks_rf σ) e_38 (by omega) (by omega) (by omega)
                  refine ok_nm (fun v_39 e_39 => ?_)
                  exact ok_mono (fun _ _ _ h9 => ⟨h9.1, ks_tr k_38 h9.2.1, kj_tr (kj_rf τ) h9.2.2⟩) (hrec_4 σ_38 τ v_1 v_39 (k_38.1.2 hI) (by have : (0 : Int32).toInt = 0 := rfl; have : (1 : Int32).toInt = 1 := rfl; have : (8 : Int32).toInt = 8 := rfl; have : (9 : Int32).toInt = 9 := rfl; have : (10 : Int32).toInt = 10 := rfl; have : (11 : Int32).toInt = 11 := rfl; have : (12 : Int32).toInt = 12 := rfl; have : (13 : Int32).toInt = 13 := rfl; have : (14 : Int32).toInt = 14 := rfl; have : (19 : Int32).toInt = 19 := rfl; have := i32_rng (σ 19 j_4); have := i32_rng (σ 19 j_2); have := i32_rng v_3; have := i32_rng v_39; have := i32_rng v_5; have := i32_rng x3; have := i32_rng x4; have := i32_rng y0; have := i32_rng y1; have u_v_39 : v_39.toInt = (x3).toInt + 1 := (by rw [e_39]; have q := ti_add (a := x3) (b := 1) (by rw [show (1 : Int32).toInt = 1 from rfl]; omega) (by rw [show (1 : Int32).toInt = 1 from rfl]; omega); rw [q, show (1 : Int32).toInt = 1 from rfl]); have u_v_5 : v_5.toInt = (σ 19 j_4).toInt := (by rw [e_5]); have u_v_3 : v_3.toInt = (σ 19 j_2).toInt := (by rw [e_3]); omega) (by have : (0 : Int32).toInt = 0 := rfl; have : (8 : Int32).toInt = 8 := rfl; have : (9 : Int32).toInt = 9 := rfl; have : (10 : Int32).toInt = 10 := rfl; have : (11 : Int32).toInt = 11 := rfl; have : (12 : Int32).toInt = 12 := rfl; have : (13 : Int32).toInt = 13 := rfl; have : (14 : Int32).toInt = 14 := rfl; have : (19 : Int32).toInt = 19 := rfl; have : (40 : Int32).toInt = 40 := rfl; have := i32_rng (σ 19 j_4); have := i32_rng (σ 19 j_2); have := i32_rng v_1; have := i32_rng v_3; have := i32_rng v_5; have := i32_rng x3; have := i32_rng x4; have := i32_rng y0; have := i32_rng y1; have u_v_1 : v_1.toInt = (y1).toInt - (y0).toInt := (by rw [e_1]; exact ti_sub (by omega) (by omega)); have u_v_5 : v_5.toInt = (σ 19 j_4).toInt := (by rw [e_5]); have u_v_3 : v_3.toInt = (σ 19 j_2).toInt := (by rw [e_3]); omega) (by have : (1 : Int32).toInt = 1 := rfl; have : (8 : Int32).toInt = 8 := rfl; have : (9 : Int32).toInt = 9 := rfl; have : (10 : Int32).toInt = 10 := rfl; have : (11 : Int32).toInt = 11 := rfl; have : (12 : Int32).toInt = 12 := rfl; have : (13 : Int32).toInt = 13 := rfl; have : (14 : Int32).toInt = 14 := rfl; have : (19 : Int32).toInt = 19 := rfl; have := i32_rng (σ 19 j_4); have := i32_rng (σ 19 j_2); have := i32_rng v_3; have := i32_rng v_39; have := i32_rng v_5; have := i32_rng x3; have := i32_rng x4; have := i32_rng y0; have := i32_rng y1; have u_v_39 : v_39.toInt = (x3).toInt + 1 := (by rw [e_39]; have q := ti_add (a := x3) (b := 1) (by rw [show (1 : Int32).toInt = 1 from rfl]; omega) (by rw [show (1 : Int32).toInt = 1 from rfl]; omega); rw [q, show (1 : Int32).toInt = 1 from rfl]); have u_v_5 : v_5.toInt = (σ 19 j_4).toInt := (by rw [e_5]); have u_v_3 : v_3.toInt = (σ 19 j_2).toInt := (by rw [e_3]); omega))
set_option maxHeartbeats 2000000 in
theorem s_B_X5_value_84 (N : Nat) (hN : 4294967296 ≤ N) (rec_4 : gI → gJ → Int32 → Int32 → Option (Int32 × gI × gJ)) (n_4 : Nat) (hrec_4 : ∀ (σ : gI) (τ : gJ) (x2 : Int32) (x3 : Int32), IC σ → (0 ≤ x3.toInt) → (0 ≤ x2.toInt ∧ x2.toInt ≤ 40) → (2147483647 - x3.toInt).toNat < n_4 → okp (Kq σ τ (fun _ => True)) (rec_4 σ τ x2 x3)) (σ : gI) (τ : gJ) (x2 : Int32) (x3 : Int32) (x4 : Int32) (hI : IC σ) (h0_4 : 0 ≤ x3.toInt) (hm_4 : (2147483647 - x3.toInt).toNat < n_4 + 1) (hlt_4 : x3.toInt < 2147483647) (ht : 0 ≤ x2.toInt ∧ x2.toInt < 40) : okp (Kq σ τ (fun _ => True)) (B_X5_value_84 N rec_4 σ τ x2 x3 x4) := by
  unfold B_X5_value_84
  refine ok_ite (fun c_1 => ?_) (fun c_1 => ?_)
  · simp only [fa_lt, fa_le, fa_eq] at c_1
    refine ok_ite (fun c_2 => ?_) (fun c_2 => ?_)
    · simp only [fa_lt, fa_le, fa_eq] at c_2
      refine ok_ite (fun c_3 => ?_) (fun c_3 => ?_)
      · simp only [fa_lt, fa_le, fa_eq] at c_3
        exact ok_mono (fun _ _ _ h9 => ⟨h9.1, ks_tr (ks_rf σ) h9.2.1, kj_tr (kj_rf τ) h9.2.2⟩) (s_B_X5_value_115 N hN rec_4 n_4 hrec_4 σ τ x3 x4 0 x2 ((ks_rf σ).1.2 hI) (by have : (0 : Int32).toInt = 0 := rfl; have : (1 : Int32).toInt = 1 := rfl; have : (8 : Int32).toInt = 8 := rfl; have := i32_rng x2; have := i32_rng x3; have := i32_rng x4; omega) (by have : (1 : Int32).toInt = 1 := rfl; have : (8 : Int32).toInt = 8 := rfl; have := i32_rng x2; have := i32_rng x3; have := i32_rng x4; omega) (by have : (1 : Int32).toInt = 1 := rfl; have : (8 : Int32).toInt = 8 := rfl; have := i32_rng x2; have := i32_rng x3; have := i32_rng x4; omega) (by have : (0 : Int32).toInt = 0 := rfl; have : (1 : Int32).toInt = 1 := rfl; have : (2 : Int32).toInt = 2 := rfl; have : (8 : Int32).toInt = 8 := rfl; have : (40 : Int32).toInt = 40 := rfl; have := i32_rng x2; have := i32_rng x3; have := i32_rng x4; omega))
      · simp only [fa_lt, fa_le, fa_eq] at c_3
        exact ok_mono (fun _ _ _ h9 => ⟨h9.1, ks_tr (ks_rf σ) h9.2.1, kj_tr (kj_rf τ) h9.2.2⟩) (s_B_X5_value_115 N hN rec_4 n_4 hrec_4 σ τ x3 x4 1 x2 ((ks_rf σ).1.2 hI) (by have : (0 : Int32).toInt = 0 := rfl; have : (1 : Int32).toInt = 1 := rfl; have : (8 : Int32).toInt = 8 := rfl; have := i32_rng x2; have := i32_rng x3; have := i32_rng x4; omega) (by have : (1 : Int32).toInt = 1 := rfl; have : (8 : Int32).toInt = 8 := rfl; have := i32_rng x2; have := i32_rng x3; have := i32_rng x4; omega) (by have : (1 : Int32).toInt = 1 := rfl; have : (8 : Int32).toInt = 8 := rfl; have := i32_rng x2; have := i32_rng x3; have := i32_rng x4; omega) (by have : (0 : Int32).toInt = 0 := rfl; have : (1 : Int32).toInt = 1 := rfl; have : (2 : Int32).toInt = 2 := rfl; have : (8 : Int32).toInt = 8 := rfl; have : (40 : Int32).toInt = 40 := rfl; have := i32_rng x2; have := i32_rng x3; have := i32_rng x4; omega))
    · simp only [fa_lt, fa_le, fa_eq] at c_2
      exact ok_r ⟨trivial, (ks_rf σ), (kj_rf τ)⟩
  · simp only [fa_lt, fa_le, fa_eq] at c_1
    refine ok_ite (fun c_4 => ?_) (fun c_4 => ?_)
    · simp only [fa_lt, fa_le, fa_eq] at c_4
      refine ok_ite (fun c_5 => ?_) (fun c_5 => ?_)
      · simp only [fa_lt, fa_le, fa_eq] at c_5
        exact ok_mono (fun _ _ _ h9 => ⟨h9.1, ks_tr (ks_rf σ) h9.2.1, kj_tr (kj_rf τ) h9.2.2⟩) (s_B_X5_value_115 N hN rec_4 n_4 hrec_4 σ τ x3 x4 0 x2 ((ks_rf σ).1.2 hI) (by have : (0 : Int32).toInt = 0 := rfl; have : (2 : Int32).toInt = 2 := rfl; have : (8 : Int32).toInt = 8 := rfl; have := i32_rng x2; have := i32_rng x3; have := i32_rng x4; omega) (by have : (1 : Int32).toInt = 1 := rfl; have : (2 : Int32).toInt = 2 := rfl; have : (8 : Int32).toInt = 8 := rfl; have := i32_rng x2; have := i32_rng x3; have := i32_rng x4; omega) (by have : (2 : Int32).toInt = 2 := rfl; have : (8 : Int32).toInt = 8 := rfl; have := i32_rng x2; have := i32_rng x3; have := i32_rng x4; omega) (by have : (0 : Int32).toInt = 0 := rfl; have : (1 : Int32).toInt = 1 := rfl; have : (2 : Int32).toInt = 2 := rfl; have : (8 : Int32).toInt = 8 := rfl; have : (40 : Int32).toInt = 40 := rfl; have := i32_rng x2; have := i32_rng x3; have := i32_rng x4; omega))
      · simp only [fa_lt, fa_le, fa_eq] at c_5
        exact ok_mono (fun _ _ _ h9 => ⟨h9.1, ks_tr (ks_rf σ) h9.2.1, kj_tr (kj_rf τ) h9.2.2⟩) (s_B_X5_value_115 N hN rec_4 n_4 hrec_4 σ τ x3 x4 1 x2 ((ks_rf σ).1.2 hI) (by have : (0 : Int32).toInt = 0 := rfl; have : (2 : Int32).toInt = 2 := rfl; have : (8 : Int32).toInt = 8 := rfl; have := i32_rng x2; have := i32_rng x3; have := i32_rng x4; omega) (by have : (1 : Int32).toInt = 1 := rfl; have : (2 : Int32).toInt = 2 := rfl; have : (8 : Int32).toInt = 8 := rfl; have := i32_rng x2; have := i32_rng x3; have := i32_rng x4; omega) (by have : (2 : Int32).toInt = 2 := rfl; have : (8 : Int32).toInt = 8 := rfl; have := i32_rng x2; have := i32_rng x3; have := i32_rng x4; omega) (by have : (0 : Int32).toInt = 0 := rfl; have : (1 : Int32).toInt = 1 := rfl; have : (2 : Int32).toInt = 2 := rfl; have : (8 : Int32).toInt = 8 := rfl; have : (40 : Int32).toInt = 40 := rfl; have := i32_rng x2; have := i32_rng x3; have := i32_rng x4; omega))
    · simp only [fa_lt, fa_le, fa_eq] at c_4
      exact ok_r ⟨trivial, (ks_rf σ), (kj_rf τ)⟩
set_option maxHeartbeats 2000000 in
theorem s_C_X5_value_4 (N : Nat) (hN : 4294967296 ≤ N) (rec_4 : gI → gJ → Int32 → Int32 → Option (Int32 × gI × gJ)) (n_4 : Nat) (hrec_4 : ∀ (σ : gI) (τ : gJ) (x2 : Int32) (x3 : Int32), IC σ → (0 ≤ x3.toInt) → (0 ≤ x2.toInt ∧ x2.toInt ≤ 40) → (2147483647 - x3.toInt).toNat < n_4 → okp (Kq σ τ (fun _ => True)) (rec_4 σ τ x2 x3)) (σ : gI) (τ : gJ) (x2 : Int32) (x3 : Int32) (hI : IC σ) (h0_4 : 0 ≤ x3.toInt) (hm_4 : (2147483647 - x3.toInt).toNat < n_4 + 1) (ht : 0 ≤ x2.toInt ∧ x2.toInt ≤ 40) : okp (Kq σ τ (fun _ => True)) (C_X5_value_4 N rec_4 σ τ x2 x3) := by
  unfold C_X5_value_4
  refine ok_ite (fun c_1 => ?_) (fun c_1 => ?_)
  · simp only [fa_lt, fa_le, fa_eq] at c_1
    exact ok_r ⟨trivial, (ks_rf σ), (kj_rf τ)⟩
  · simp only [fa_lt, fa_le, fa_eq] at c_1
    refine ok_ite (fun c_2 => ?_) (fun c_2 => ?_)
    · simp only [fa_lt, fa_le, fa_eq] at c_2
      exact ok_r ⟨trivial, (ks_rf σ), (kj_rf τ)⟩
    · simp only [fa_lt, fa_le, fa_eq] at c_2
      refine ok_ite (fun c_3 => ?_) (fun c_3 => ?_)
      · simp only [fa_lt, fa_le, fa_eq] at c_3
        exact ok_r ⟨trivial, (ks_rf σ), (kj_rf τ)⟩
      · simp only [fa_lt, fa_le, fa_eq] at c_3
        refine ok_ck (by have : (0 : Int32).toInt = 0 := rfl; have : (3 : Int32).toInt = 3 := rfl; have : (17 : Int32).toInt = 17 := rfl; have : (40 : Int32).toInt = 40 := rfl; have := i32_rng (σ 17 3); have := i32_rng x2; have := i32_rng x3; omega) (fun j_4 hj_4 lj_4 => ?_)
        refine ok_nm (fun v_5 e_5 => ?_)
        refine ok_ite (fun c_4 => ?_) (fun c_4 => ?_)
        · simp only [fa_lt, fa_le, fa_eq] at c_4
          refine ok_ite (fun c_5 => ?_) (fun c_5 => ?_)
          · simp only [fa_lt, fa_le, fa_eq] at c_5
            exact ok_mono (fun _ _ _ h9 => ⟨h9.1, ks_tr (ks_rf σ) h9.2.1, kj_tr (kj_rf τ) h9.2.2⟩) (s_B_X5_value_84 N hN rec_4 n_4 hrec_4 σ τ x2 x3 v_5 ((ks_rf σ).1.2 hI) (by have : (0 : Int32).toInt = 0 := rfl; have : (3 : Int32).toInt = 3 := rfl; have : (17 : Int32).toInt = 17 := rfl; have : (18 : Int32).toInt = 18 := rfl; have : (32 : Int32).toInt = 32 := rfl; have : (40 : Int32).toInt = 40 := rfl; have := i32_rng (σ 18 j_4); have := i32_rng (σ 17 3); have := i32_rng v_5; have := i32_rng x2; have := i32_rng x3; have u_v_5 : v_5.toInt = (σ 18 j_4).toInt := (by rw [e_5]); omega) (by have : (0 : Int32).toInt = 0 := rfl; have : (1 : Int32).toInt = 1 := rfl; have : (3 : Int32).toInt = 3 := rfl; have : (17 : Int32).toInt = 17 := rfl; have : (18 : Int32).toInt = 18 := rfl; have : (32 : Int32).toInt = 32 := rfl; have : (40 : Int32).toInt = 40 := rfl; have := i32_rng (σ 18 j_4); have := i32_rng (σ 17 3); have := i32_rng v_5; have := i32_rng x2; have := i32_rng x3; have u_v_5 : v_5.toInt = (σ 18 j_4).toInt := (by rw [e_5]); omega) (by have : (0 : Int32).toInt = 0 := rfl; have : (3 : Int32).toInt = 3 := rfl; have : (17 : Int32).toInt = 17 := rfl; have : (18 : Int32).toInt = 18 := rfl; have : (32 : Int32).toInt = 32 := rfl; have : (40 : Int32).toInt = 40 := rfl; have := i32_rng (σ 18 j_4); have := i32_rng (σ 17 3); have := i32_rng v_5; have := i32_rng x2; have := i32_rng x3; have u_v_5 : v_5.toInt = (σ 18 j_4).toInt := (by rw [e_5]); omega) (by have : (0 : Int32).toInt = 0 := rfl; have : (3 : Int32).toInt = 3 := rfl; have : (17 : Int32).toInt = 17 := rfl; have : (18 : Int32).toInt = 18 := rfl; have : (32 : Int32).toInt = 32 := rfl; have : (40 : Int32).toInt = 40 := rfl; have := i32_rng (σ 18 j_4); have := i32_rng (σ 17 3); have := i32_rng v_5; have := i32_rng x2; have := i32_rng x3; have u_v_5 : v_5.toInt = (σ 18 j_4).toInt := (by rw [e_5]); omega))
          · simp only [fa_lt, fa_le, fa_eq] at c_5
            refine ok_ite (fun c_6 => ?_) (fun c_6 => ?_)
            · simp only [fa_lt, fa_le, fa_eq] at c_6
              exact ok_mono (fun _ _ _ h9 => ⟨h9.1, ks_tr (ks_rf σ) h9.2.1, kj_tr (kj_rf τ) h9.2.2⟩) (s_B_X5_value_84 N hN rec_4 n_4 hrec_4 σ τ x2 x3 v_5 ((ks_rf σ).1.2 hI) (by have : (0 : Int32).toInt = 0 := rfl; have : (3 : Int32).toInt = 3 := rfl; have : (8 : Int32).toInt = 8 := rfl; have : (17 : Int32).toInt = 17 := rfl; have : (18 : Int32).toInt = 18 := rfl; have : (32 : Int32).toInt = 32 := rfl; have : (40 : Int32).toInt = 40 := rfl; have := i32_rng (σ 18 j_4); have := i32_rng (σ 17 3); have := i32_rng v_5; have := i32_rng x2; have := i32_rng x3; have u_v_5 : v_5.toInt = (σ 18 j_4).toInt := (by rw [e_5]); omega) (by have : (0 : Int32).toInt = 0 := rfl; have : (1 : Int32).toInt = 1 := rfl; have : (3 : Int32).toInt = 3 := rfl; have : (8 : Int32).toInt = 8 := rfl; have : (17 : Int32).toInt = 17 := rfl; have : (18 : Int32).toInt = 18 := rfl; have : (32 : Int32).toInt = 32 := rfl; have : (40 : Int32).toInt = 40 := rfl; have := i32_rng (σ 18 j_4); have := i32_rng (σ 17 3); have := i32_rng v_5; have := i32_rng x2; have := i32_rng x3; have u_v_5 : v_5.toInt = (σ 18 j_4).toInt := (by rw [e_5]); omega) (by have : (0 : Int32).toInt = 0 := rfl; have : (3 : Int32).toInt = 3 := rfl; have : (8 : Int32).toInt = 8 := rfl; have : (17 : Int32).toInt = 17 := rfl; have : (18 : Int32).toInt = 18 := rfl; have : (32 : Int32).toInt = 32 := rfl; have : (40 : Int32).toInt = 40 := rfl; have := i32_rng (σ 18 j_4); have := i32_rng (σ 17 3); have := i32_rng v_5; have := i32_rng x2; have := i32_rng x3; have u_v_5 : v_5.toInt = (σ 18 j_4).toInt := (by rw [e_5]); omega) (by have : (0 : Int32).toInt = 0 := rfl; have : (3 : Int32).toInt = 3 := rfl; have : (8 : Int32).toInt = 8 := rfl; have : (17 : Int32).toInt = 17 := rfl; have : (18 : Int32).toInt = 18 := rfl; have : (32 : Int32).toInt = 32 := rfl; have : (40 : Int32).toInt = 40 := rfl; have := i32_rng (σ 18 j_4); have := i32_rng (σ 17 3); have := i32_rng v_5; have := i32_rng x2; have := i32_rng x3; have u_v_5 : v_5.toInt = (σ 18 j_4).toInt := (by rw [e_5]); omega))
            · simp only [fa_lt, fa_le, fa_eq] at c_6
              refine ok_nm (fun v_9 e_9 => ?_)
              refine ok_ck (by have : (0 : Int32).toInt = 0 := rfl; have : (3 : Int32).toInt = 3 := rfl; have : (8 : Int32).toInt = 8 := rfl; have : (17 : Int32).toInt = 17 := rfl; have : (18 : Int32).toInt = 18 := rfl; have : (32 : Int32).toInt = 32 := rfl; have : (40 : Int32).toInt = 40 := rfl; have := i32_rng (σ 18 j_4); have := i32_rng (σ 17 3); have := i32_rng v_5; have := i32_rng x2; have := i32_rng x3; have u_v_5 : v_5.toInt = (σ 18 j_4).toInt := (by rw [e_5]); omega) (fun j_10 hj_10 lj_10 => ?_)
              refine ok_ck (by have : (0 : Int32).toInt = 0 := rfl; have : (3 : Int32).toInt = 3 := rfl; have : (8 : Int32).toInt = 8 := rfl; have : (17 : Int32).toInt = 17 := rfl; have : (18 : Int32).toInt = 18 := rfl; have : (32 : Int32).toInt = 32 := rfl; have : (40 : Int32).toInt = 40 := rfl; have := i32_rng (σ 18 j_4); have := i32_rng (σ 17 3); have := i32_rng v_5; have := i32_rng x2; have := i32_rng x3; have u_v_5 : v_5.toInt = (σ 18 j_4).toInt := (by rw [e_5]); omega) (fun j_11 hj_11 lj_11 => ?_)
              refine ok_nm (fun σ_12 e_12 => ?_)
              have k_12 : KS σ σ_12 := ks_up (ks_rf σ) e_12 (by omega) (by omega) (by omega)
              refine ok_nm (fun v_13 e_13 => ?_)
              exact ok_mono (fun _ _ _ h9 => ⟨h9.1, ks_tr k_12 h9.2.1, kj_tr (kj_rf τ) h9.2.2⟩) (hrec_4 σ_12 τ v_9 v_13 (k_12.1.2 hI) (by have : (0 : Int32).toInt = 0 := rfl; have : (1 : Int32).toInt = 1 := rfl; have : (3 : Int32).toInt = 3 := rfl; have : (8 : Int32).toInt = 8 := rfl; have : (17 : Int32).toInt = 17 := rfl; have : (18 : Int32).toInt = 18 := rfl; have : (32 : Int32).toInt = 32 := rfl; have : (40 : Int32).toInt = 40 := rfl; have := i32_rng (σ 18 j_4); have := i32_rng (σ 17 3); have := i32_rng v_13; have := i32_rng v_5; have := i32_rng x2; have := i32_rng x3; have u_v_13 : v_13.toInt = (x3).toInt + 1 := (by rw [e_13]; have q := ti_add (a := x3) (b := 1) (by rw [show (1 : Int32).toInt = 1 from rfl]; omega) (by rw [show (1 : Int32).toInt = 1 from rfl]; omega); rw [q, show (1 : Int32).toInt = 1 from rfl]); have u_v_5 : v_5.toInt = (σ 18 j_4).toInt := (by rw [e_5]); omega) (by have : (0 : Int32).toInt = 0 := rfl; have : (1 : Int32).toInt = 1 := rfl; have : (3 : Int32).toInt = 3 := rfl; have : (8 : Int32).toInt = 8 := rfl; have : (17 : Int32).toInt = 17 := rfl; have : (18 : Int32).toInt = 18 := rfl; have : (32 : Int32).toInt = 32 := rfl; have : (40 : Int32).toInt = 40 := rfl; have := i32_rng (σ 18 j_4); have := i32_rng (σ 17 3); have := i32_rng v_5; have := i32_rng v_9; have := i32_rng x2; have := i32_rng x3; have u_v_9 : v_9.toInt = (x2).toInt + 1 := (by rw [e_9]; have q := ti_add (a := x2) (b := 1) (by rw [show (1 : Int32).toInt = 1 from rfl]; omega) (by rw [show (1 : Int32).toInt = 1 from rfl]; omega); rw [q, show (1 : Int32).toInt = 1 from rfl]); have u_v_5 : v_5.toInt = (σ 18 j_4).toInt := (by rw [e_5]); omega) (by have : (0 : Int32).toInt = 0 := rfl; have : (1 : Int32).toInt = 1 := rfl; have : (3 : Int32).toInt = 3 := rfl; have : (8 : Int32).toInt = 8 := rfl; have : (17 : Int32).toInt = 17 := rfl; have : (18 : Int32).toInt = 18 := rfl; have : (32 : Int32).toInt = 32 := rfl; have : (40 : Int32).toInt = 40 := rfl; have := i32_rng (σ 18 j_4); have := i32_rng (σ 17 3); have := i32_rng v_13; have := i32_rng v_5; have := i32_rng x2; have := i32_rng x3; have u_v_13 : v_13.toInt = (x3).toInt + 1 := (by rw [e_13]; have q := ti_add (a := x3) (b := 1) (by rw [show (1 : Int32).toInt = 1 from rfl]; omega) (by rw [show (1 : Int32).toInt = 1 from rfl]; omega); rw [q, show (1 : Int32).toInt = 1 from rfl]); have u_v_5 : v_5.toInt = (σ 18 j_4).toInt := (by rw [e_5]); omega))
        · simp only [fa_lt, fa_le, fa_eq] at c_4
          refine ok_nm (fun v_14 e_14 => ?_)
          refine ok_ck (by have : (0 : Int32).toInt = 0 := rfl; have : (3 : Int32).toInt = 3 := rfl; have : (17 : Int32).toInt = 17 := rfl; have : (18 : Int32).toInt = 18 := rfl; have : (32 : Int32).toInt = 32 := rfl; have : (40 : Int32).toInt = 40 := rfl; have := i32_rng (σ 18 j_4); have := i32_rng (σ 17 3); have := i32_rng v_5; have := i32_rng x2; have := i32_rng x3; have u_v_5 : v_5.toInt = (σ 18 j_4).toInt := (by rw [e_5]); omega) (fun j_15 hj_15 lj_15 => ?_)
          refine ok_nm (fun σ_16 e_16 => ?_)
          have k_16 : KS σ σ_16 := ks_up (ks_rf σ) e_16 (by omega) (by omega) (by omega)
          refine ok_nm (fun v_17 e_17 => ?_)
          exact ok_mono (fun _ _ _ h9 => ⟨h9.1, ks_tr k_16 h9.2.1, kj_tr (kj_rf τ) h9.2.2⟩) (hrec_4 σ_16 τ v_14 v_17 (k_16.1.2 hI) (by have : (0 : Int32).toInt = 0 := rfl; have : (1 : Int32).toInt = 1 := rfl; have : (3 : Int32).toInt = 3 := rfl; have : (17 : Int32).toInt = 17 := rfl; have : (18 : Int32).toInt = 18 := rfl; have : (32 : Int32).toInt = 32 := rfl; have : (40 : Int32).toInt = 40 := rfl; have := i32_rng (σ 18 j_4); have := i32_rng (σ 17 3); have := i32_rng v_17; have := i32_rng v_5; have := i32_rng x2; have := i32_rng x3; have u_v_17 : v_17.toInt = (x3).toInt + 1 := (by rw [e_17]; have q := ti_add (a := x3) (b := 1) (by rw [show (1 : Int32).toInt = 1 from rfl]; omega) (by rw [show (1 : Int32).toInt = 1 from rfl]; omega); rw [q, show (1 : Int32).toInt = 1 from rfl]); have u_v_5 : v_5.toInt = (σ 18 j_4).toInt := (by rw [e_5]); omega) (by have : (0 : Int32).toInt = 0 := rfl; have : (1 : Int32).toInt = 1 := rfl; have : (3 : Int32).toInt = 3 := rfl; have : (17 : Int32).toInt = 17 := rfl; have : (18 : Int32).toInt = 18 := rfl; have : (32 : Int32).toInt = 32 := rfl; have : (40 : Int32).toInt = 40 := rfl; have := i32_rng (σ 18 j_4); have := i32_rng (σ 17 3); have := i32_rng v_14; have := i32_rng v_5; have := i32_rng x2; have := i32_rng x3; have u_v_14 : v_14.toInt = (x2).toInt + 1 := (by rw [e_14]; have q := ti_add (a := x2) (b := 1) (by rw [show (1 : Int32).toInt = 1 from rfl]; omega) (by rw [show (1 : Int32).toInt = 1 from rfl]; omega); rw [q, show (1 : Int32).toInt = 1 from rfl]); have u_v_5 : v_5.toInt = (σ 18 j_4).toInt := (by rw [e_5]); omega) (by have : (1 : Int32).toInt = 1 := rfl; have : (3 : Int32).toInt = 3 := rfl; have : (17 : Int32).toInt = 17 := rfl; have : (18 : Int32).toInt = 18 := rfl; have : (32 : Int32).toInt = 32 := rfl; have : (40 : Int32).toInt = 40 := rfl; have := i32_rng (σ 18 j_4); have := i32_rng (σ 17 3); have := i32_rng v_17; have := i32_rng v_5; have := i32_rng x2; have := i32_rng x3; have u_v_17 : v_17.toInt = (x3).toInt + 1 := (by rw [e_17]; have q := ti_add (a := x3) (b := 1) (by rw [show (1 : Int32).toInt = 1 from rfl]; omega) (by rw [show (1 : Int32).toInt = 1 from rfl]; omega); rw [q, show (1 : Int32).toInt = 1 from rfl]); have u_v_5 : v_5.toInt = (σ 18 j_4).toInt := (by rw [e_5]); omega))
theorem s_H_X5_value_4 (N : Nat) (hN : 4294967296 ≤ N) : ∀ (n : Nat) (σ : gI) (τ : gJ) (x2 : Int32) (x3 : Int32), IC σ → (0 ≤ x3.toInt) → (0 ≤ x2.toInt ∧ x2.toInt ≤ 40) → (2147483647 - x3.toInt).toNat < n → okp (Kq σ τ (fun _ => True)) (H_X5_value_4 N n σ τ x2 x3) := by
  intro n
  induction n with
  | zero => intro σ τ x2 x3 _ _ _ hm; exact absurd hm (Nat.not_lt_zero _)
  | succ n ih =>
    intro σ τ x2 x3 hI h0_4 ht hm
    exact s_C_X5_value_4 N hN (H_X5_value_4 N n) n ih σ τ x2 x3 hI h0_4 hm ht
set_option maxHeartbeats 2000000 in
theorem s_B_X5_value_0 (N : Nat) (hN : 4294967296 ≤ N) (σ : gI) (τ : gJ) (hI : IC σ) : okp (Kq σ τ (fun _ => True)) (B_X5_value_0 N σ τ) := by
  unfold B_X5_value_0
  exact ok_mono (fun _ _ _ h9 => ⟨h9.1, ks_tr (ks_rf σ) h9.2.1, kj_tr (kj_rf τ) h9.2.2⟩) (s_H_X5_value_4 N hN N σ τ 0 0 ((ks_rf σ).1.2 hI) (by have : (0 : Int32).toInt = 0 := rfl; omega) (by have : (0 : Int32).toInt = 0 := rfl; have : (40 : Int32).toInt = 40 := rfl; omega) (by have : (0 : Int32).toInt = 0 := rfl; omega))
set_option maxHeartbeats 2000000 in
theorem s_B_X1_wayOf_143 (N : Nat) (hN : 4294967296 ≤ N) (d : Nat) (td : gx_isS d) (σ : gI) (τ : gJ) (x3 : Int32) (x5 : Int32) (x6 : Int32) (y0 : Int32) (hI : IC σ) : okp (Kq σ τ (fun _ => True)) (B_X1_wayOf_143 N d σ τ x3 x5 x6 y0) := by
  unfold B_X1_wayOf_143
  have hd := isS_rng td
  refine ok_nm (fun σ_1 e_1 => ?_)
  have k_1 : KS σ σ_1 := ks_up (ks_rf σ) e_1 (by omega) (by omega) (by omega)
  refine ok_nm (fun σ_2 e_2 => ?_)
  have k_2 : KS σ σ_2 := ks_up k_1 e_2 (by omega) (by omega) (by omega)
  refine ok_bd (s_B_X5_value_0 N hN σ_2 τ (k_2.1.2 hI)) (fun r_3 σ_3 τ_3 hp_3 => ?_)
  have k_3 : KS σ σ_3 := ks_tr k_2 hp_3.2.1
  have kj_3 : KJ τ τ_3 := kj_tr (kj_rf τ) hp_3.2.2
  refine ok_ite (fun c_1 => ?_) (fun c_1 => ?_)
  · simp only [fa_lt, fa_le, fa_eq] at c_1
    exact ok_r ⟨trivial, k_3, kj_3⟩
  · simp only [fa_lt, fa_le, fa_eq] at c_1
    exact ok_r ⟨trivial, k_3, kj_3⟩
set_option maxHeartbeats 2000000 in
theorem s_B_X1_wayOf_52 (N : Nat) (hN : 4294967296 ≤ N) (d : Nat) (td : gx_isS d) (σ : gI) (τ : gJ) (x2 : Int32) (x3 : Int32) (x4 : Int32) (x5 : Int32) (x6 : Int32) (hI : IC σ) : okp (Kq σ τ (fun _ => True)) (B_X1_wayOf_52 N d σ τ x2 x3 x4 x5 x6) := by
  unfold B_X1_wayOf_52
  have hd := isS_rng td
  refine ok_nm (fun σ_1 e_1 => ?_)
  have k_1 : KS σ σ_1 := ks_up (ks_rf σ) e_1 (by omega) (by omega) (by omega)
  refine ok_nm (fun σ_2 e_2 => ?_)
  have k_2 : KS σ σ_2 := ks_up k_1 e_2 (by omega) (by omega) (by omega)
  refine ok_nm (fun σ_3 e_3 => ?_)
  have k_3 : KS σ σ_3 := ks_up k_2 e_3 (by omega) (by omega) (by omega)
  refine ok_nm (fun σ_4 e_4 => ?_)
  have k_4 : KS σ σ_4 := ks_up k_3 e_4 (by omega) (by omega) (by omega)
  refine ok_bd (s_B_X6_paperOf_0 N hN d td σ_4 τ x2 (k_4.1.2 hI)) (fun r_5 σ_5 τ_5 hp_5 => ?_)
  have k_5 : KS σ σ_5 := ks_eq k_4 hp_5.2.1
  have kj_5 : KJ τ τ_5 := kj_eq (kj_rf τ) hp_5.2.2
  refine ok_nm (fun σ_6 e_6 => ?_)
  have k_6 : KS σ σ_6 := ks_up k_5 e_6 (by omega) (by omega) (by omega)
  refine ok_bd (s_B_X6_purseOf_0 N hN d td σ_6 τ_5 x2 (k_6.1.2 hI)) (fun r_7 σ_7 τ_7 hp_7 => ?_)
  have k_7 : KS σ σ_7 := ks_eq k_6 hp_7.2.1
  have kj_7 : KJ τ τ_7 := kj_eq kj_5 hp_7.2.2
  refine ok_nm (fun σ_8 e_8 => ?_)
  have k_8 : KS σ σ_8 := ks_up k_7 e_8 (by omega) (by omega) (by omega)
  refine ok_ite (fun c_1 => ?_) (fun c_1 => ?_)
  · simp only [fa_lt, fa_le, fa_eq] at c_1
    exact ok_mono (fun _ _ _ h9 => ⟨h9.1, ks_tr k_8 h9.2.1, kj_tr kj_7 h9.2.2⟩) (s_B_X1_wayOf_143 N hN d td σ_8 τ_7 x3 x5 x6 0 (k_8.1.2 hI))
  · simp only [fa_lt, fa_le, fa_eq] at c_1
    refine ok_bd (s_B_X6_at_0 N hN d td σ_8 τ_7 x3 (k_8.1.2 hI)) (fun r_10 σ_10 τ_10 hp_10 => ?_)
    have k_10 : KS σ σ_10 := ks_eq k_8 hp_10.2.1
    have kj_10 : KJ τ τ_10 := kj_eq kj_7 hp_10.2.2
    refine ok_bd (s_B_J6_bitCount_0f7a4_0 N hN σ_10 τ_10 r_10 (k_10.1.2 hI)) (fun r_11 σ_11 τ_11 hp_11 => ?_)
    have k_11 : KS σ σ_11 := ks_eq k_10 hp_11.2.1
    have kj_11 : KJ τ τ_11 := kj_eq kj_10 hp_11.2.2
    exact ok_mono (fun _ _ _ h9 => ⟨h9.1, ks_tr k_11 h9.2.1, kj_tr kj_11 h9.2.2⟩) (s_B_X1_wayOf_143 N hN d td σ_11 τ_11 x3 x5 x6 (r_11 - 1) (k_11.1.2 hI))
set_option maxHeartbeats 2000000 in
theorem s_B_X1_wayOf_0 (N : Nat) (hN : 4294967296 ≤ N) (d : Nat) (td : gx_isS d) (σ : gI) (τ : gJ) (x2 : Int32) (x3 : Int32) (x4 : Int32) (hI : IC σ) : okp (Kq σ τ (fun _ => True)) (B_X1_wayOf_0 N d σ τ x2 x3 x4) := by
  unfold B_X1_wayOf_0
  have hd := isS_rng td
  refine ok_bd (s_B_X8_nextOf_0 N hN σ τ x3 ((ks_rf σ).1.2 hI)) (fun r_1 σ_1 τ_1 hp_1 => ?_)
  have k_1 : KS σ σ_1 := ks_eq (ks_rf σ) hp_1.2.1
  have kj_1 : KJ τ τ_1 := kj_eq (kj_rf τ) hp_1.2.2
  refine ok_bd (s_B_X8_secondOf_0 N hN σ_1 τ_1 x3 (k_1.1.2 hI)) (fun r_2 σ_2 τ_2 hp_2 => ?_)
  have k_2 : KS σ σ_2 := ks_eq k_1 hp_2.2.1
  have kj_2 : KJ τ τ_2 := kj_eq kj_1 hp_2.2.2
  refine ok_ite (fun c_1 => ?_) (fun c_1 => ?_)
  · simp only [fa_lt, fa_le, fa_eq] at c_1
    exact ok_r ⟨trivial, k_2, kj_2⟩
  · simp only [fa_lt, fa_le, fa_eq] at c_1
    refine ok_ite (fun c_2 => ?_) (fun c_2 => ?_)
    · simp only [fa_lt, fa_le, fa_eq] at c_2
      exact ok_mono (fun _ _ _ h9 => ⟨h9.1, ks_tr k_2 h9.2.1, kj_tr kj_2 h9.2.2⟩) (s_B_X1_wayOf_52 N hN d td σ_2 τ_2 x2 x3 x4 r_1 r_2 (k_2.1.2 hI))
    · simp only [fa_lt, fa_le, fa_eq] at c_2
      refine ok_nm (fun σ_5 e_5 => ?_)
      have k_5 : KS σ σ_5 := ks_up k_2 e_5 (by omega) (by omega) (by omega)
      exact ok_mono (fun _ _ _ h9 => ⟨h9.1, ks_tr k_5 h9.2.1, kj_tr kj_2 h9.2.2⟩) (s_B_X1_wayOf_52 N hN d td σ_5 τ_2 x2 x3 x4 r_1 r_2 (k_5.1.2 hI))
set_option maxHeartbeats 2000000 in
theorem s_B_X6_setPurse_0 (N : Nat) (hN : 4294967296 ≤ N) (c : Nat) (tc : gx_isS c) (σ : gI) (τ : gJ) (x1 : Int32) (x2 : Int32) (hI : IC σ) : okp (Kq σ τ (fun _ => True)) (B_X6_setPurse_0 N c σ τ x1 x2) := by
  unfold B_X6_setPurse_0
  have hc := isS_rng tc
  refine ok_ite (fun c_1 => ?_) (fun c_1 => ?_)
  · simp only [fa_lt, fa_le, fa_eq] at c_1
    exact ok_r ⟨trivial, (ks_rf σ), (kj_rf τ)⟩
  · simp only [fa_lt, fa_le, fa_eq] at c_1
    refine ok_ite (fun c_2 => ?_) (fun c_2 => ?_)
    · simp only [fa_lt, fa_le, fa_eq] at c_2
      exact ok_r ⟨trivial, (ks_rf σ), (kj_rf τ)⟩
    · simp only [fa_lt, fa_le, fa_eq] at c_2
      refine ok_ck (by have : (0 : Int32).toInt = 0 := rfl; have : (6 : Int32).toInt = 6 := rfl; have := i32_rng x1; omega) (fun j_3 hj_3 lj_3 => ?_)
      refine ok_nm (fun σ_4 e_4 => ?_)
      have k_4 : KS σ σ_4 := ks_up (ks_rf σ) e_4 (by omega) (by omega) (by omega)
      exact ok_r ⟨trivial, k_4, (kj_rf τ)⟩
set_option maxHeartbeats 2000000 in
theorem s_B_X1_pays_0 (N : Nat) (hN : 4294967296 ≤ N) (d : Nat) (td : gx_isS d) (σ : gI) (τ : gJ) (x2 : Int32) (x3 : Int32) (hI : IC σ) : okp (Kq σ τ (fun a => a = 0 ∨ a = 1)) (B_X1_pays_0 N d σ τ x2 x3) := by
  unfold B_X1_pays_0
  have hd := isS_rng td
  refine ok_bd (s_B_X6_purseOf_0 N hN d td σ τ x2 ((ks_rf σ).1.2 hI)) (fun r_1 σ_1 τ_1 hp_1 => ?_)
  have k_1 : KS σ σ_1 := ks_eq (ks_rf σ) hp_1.2.1
  have kj_1 : KJ τ τ_1 := kj_eq (kj_rf τ) hp_1.2.2
  refine ok_ite (fun c_1 => ?_) (fun c_1 => ?_)
  · simp only [fa_lt, fa_le, fa_eq] at c_1
    refine ok_ite (fun c_2 => ?_) (fun c_2 => ?_)
    · simp only [fa_lt, fa_le, fa_eq] at c_2
      refine ok_bd (s_B_X6_setPurse_0 N hN d td σ_1 τ_1 x2 (r_1 - x3) (k_1.1.2 hI)) (fun _ σ_4 τ_4 hp_4 => ?_)
      have k_4 : KS σ σ_4 := ks_tr k_1 hp_4.2.1
      have kj_4 : KJ τ τ_4 := kj_tr kj_1 hp_4.2.2
      exact ok_r ⟨(Or.inr rfl), k_4, kj_4⟩
    · simp only [fa_lt, fa_le, fa_eq] at c_2
      exact ok_r ⟨(Or.inr rfl), k_1, kj_1⟩
  · simp only [fa_lt, fa_le, fa_eq] at c_1
    refine ok_nm (fun σ_5 e_5 => ?_)
    have k_5 : KS σ σ_5 := ks_up k_1 e_5 (by omega) (by omega) (by omega)
    exact ok_r ⟨(Or.inl rfl), k_5, kj_1⟩
set_option maxHeartbeats 2000000 in
theorem s_B_X6_lose_0 (N : Nat) (hN : 4294967296 ≤ N) (c : Nat) (tc : gx_isS c) (σ : gI) (τ : gJ) (x1 : Int32) (hI : IC σ) : okp (Kq σ τ (fun _ => True)) (B_X6_lose_0 N c σ τ x1) := by
  unfold B_X6_lose_0
  have hc := isS_rng tc
  refine ok_ite (fun c_1 => ?_) (fun c_1 => ?_)
  · simp only [fa_lt, fa_le, fa_eq] at c_1
    exact ok_r ⟨trivial, (ks_rf σ), (kj_rf τ)⟩
  · simp only [fa_lt, fa_le, fa_eq] at c_1
    refine ok_ite (fun c_2 => ?_) (fun c_2 => ?_)
    · simp only [fa_lt, fa_le, fa_eq] at c_2
      exact ok_r ⟨trivial, (ks_rf σ), (kj_rf τ)⟩
    · simp only [fa_lt, fa_le, fa_eq] at c_2
      refine ok_nm (fun σ_3 e_3 => ?_)
      have k_3 : KS σ σ_3 := ks_up (ks_rf σ) e_3 (by omega) (by omega) (by omega)
      refine ok_ck (by have : (0 : Int32).toInt = 0 := rfl; have : (6 : Int32).toInt = 6 := rfl; have := i32_rng x1; omega) (fun j_4 hj_4 lj_4 => ?_)
      refine ok_nm (fun σ_5 e_5 => ?_)
      have k_5 : KS σ σ_5 := ks_up k_3 e_5 (by omega) (by omega) (by omega)
      exact ok_r ⟨trivial, k_5, (kj_rf τ)⟩
set_option maxHeartbeats 2000000 in
theorem s_B_X6_setPaper_0 (N : Nat) (hN : 4294967296 ≤ N) (c : Nat) (tc : gx_isS c) (σ : gI) (τ : gJ) (x1 : Int32) (x2 : Int32) (hI : IC σ) : okp (Kq σ τ (fun _ => True)) (B_X6_setPaper_0 N c σ τ x1 x2) := by
  unfold B_X6_setPaper_0
  have hc := isS_rng tc
  refine ok_ite (fun c_1 => ?_) (fun c_1 => ?_)
  · simp only [fa_lt, fa_le, fa_eq] at c_1
    exact ok_r ⟨trivial, (ks_rf σ), (kj_rf τ)⟩
  · simp only [fa_lt, fa_le, fa_eq] at c_1
    refine ok_ite (fun c_2 => ?_) (fun c_2 => ?_)
    · simp only [fa_lt, fa_le, fa_eq] at c_2
      exact ok_r ⟨trivial, (ks_rf σ), (kj_rf τ)⟩
    · simp only [fa_lt, fa_le, fa_eq] at c_2
      refine ok_ck (by have : (0 : Int32).toInt = 0 := rfl; have : (6 : Int32).toInt = 6 := rfl; have := i32_rng x1; omega) (fun j_3 hj_3 lj_3 => ?_)
      refine ok_nm (fun σ_4 e_4 => ?_)
      have k_4 : KS σ σ_4 := ks_up (ks_rf σ) e_4 (by omega) (by omega) (by omega)
      exact ok_r ⟨trivial, k_4, (kj_rf τ)⟩
set_option maxHeartbeats 2000000 in
theorem s_B_X6_move_0 (N : Nat) (hN : 4294967296 ≤ N) (c : Nat) (tc : gx_isS c) (σ : gI) (τ : gJ) (x1 : Int32) (x2 : Int32) (hI : IC σ) : okp (Kq σ τ (fun _ => True)) (B_X6_move_0 N c σ τ x1 x2) := by
  unfold B_X6_move_0
  have hc := isS_rng tc
  refine ok_ite (fun c_1 => ?_) (fun c_1 => ?_)
  · simp only [fa_lt, fa_le, fa_eq] at c_1
    exact ok_r ⟨trivial, (ks_rf σ), (kj_rf τ)⟩
  · simp only [fa_lt, fa_le, fa_eq] at c_1
    refine ok_ite (fun c_2 => ?_) (fun c_2 => ?_)
    · simp only [fa_lt, fa_le, fa_eq] at c_2
      exact ok_r ⟨trivial, (ks_rf σ), (kj_rf τ)⟩
    · simp only [fa_lt, fa_le, fa_eq] at c_2
      refine ok_ck (by have : (0 : Int32).toInt = 0 := rfl; have : (6 : Int32).toInt = 6 := rfl; have := i32_rng x1; omega) (fun j_3 hj_3 lj_3 => ?_)
      refine ok_nm (fun σ_4 e_4 => ?_)
      have k_4 : KS σ σ_4 := ks_up (ks_rf σ) e_4 (by omega) (by omega) (by omega)
      refine ok_nm (fun σ_5 e_5 => ?_)
      have k_5 : KS σ σ_5 := ks_up k_4 e_5 (by omega) (by omega) (by omega)
      exact ok_r ⟨trivial, k_5, (kj_rf τ)⟩
set_option maxHeartbeats 2000000 in
theorem s_B_X1_arrives_23 (N : Nat) (hN : 4294967296 ≤ N) (d : Nat) (td : gx_isS d) (σ : gI) (τ : gJ) (x2 : Int32) (x3 : Int32) (y0 : Int32) (hI : IC σ) : okp (Kq σ τ (fun a => a = 0 ∨ a = 1)) (B_X1_arrives_23 N d σ τ x2 x3 y0) := by
  unfold B_X1_arrives_23
  have hd := isS_rng td
  refine ok_bd (s_B_X6_setPaper_0 N hN d td σ τ x2 (imax 0 y0) ((ks_rf σ).1.2 hI)) (fun _ σ_1 τ_1 hp_1 => ?_)
  have k_1 : KS σ σ_1 := ks_tr (ks_rf σ) hp_1.2.1
  have kj_1 : KJ τ τ_1 := kj_tr (kj_rf τ) hp_1.2.2
  refine ok_bd (s_B_X6_move_0 N hN d td σ_1 τ_1 x2 x3 (k_1.1.2 hI)) (fun _ σ_2 τ_2 hp_2 => ?_)
  have k_2 : KS σ σ_2 := ks_tr k_1 hp_2.2.1
  have kj_2 : KJ τ τ_2 := kj_tr kj_1 hp_2.2.2
  refine ok_ite (fun c_1 => ?_) (fun c_1 => ?_)
  · simp only [fa_lt, fa_le, fa_eq] at c_1
    refine ok_bd (s_B_X8_isKitchen_0 N hN σ_2 τ_2 x3 (k_2.1.2 hI)) (fun r_4 σ_4 τ_4 hp_4 => ?_)
    have k_4 : KS σ σ_4 := ks_eq k_2 hp_4.2.1
    have kj_4 : KJ τ τ_4 := kj_eq kj_2 hp_4.2.2
    refine ok_ite (fun c_2 => ?_) (fun c_2 => ?_)
    · simp only [fa_lt, fa_le, fa_eq] at c_2
      exact ok_r ⟨(Or.inr rfl), k_4, kj_4⟩
    · simp only [fa_lt, fa_le, fa_eq] at c_2
      refine ok_bd (s_B_X6_comeHome_0 N hN d td σ_4 τ_4 x2 (k_4.1.2 hI)) (fun _ σ_6 τ_6 hp_6 => ?_)
      have k_6 : KS σ σ_6 := ks_tr k_4 hp_6.2.1
      have kj_6 : KJ τ τ_6 := kj_tr kj_4 hp_6.2.2
      exact ok_r ⟨(Or.inl rfl), k_6, kj_6⟩
  · simp only [fa_lt, fa_le, fa_eq] at c_1
    refine ok_bd (s_B_X6_lose_0 N hN d td σ_2 τ_2 x2 (k_2.1.2 hI)) (fun _ σ_7 τ_7 hp_7 => ?_)
    have k_7 : KS σ σ_7 := ks_tr k_2 hp_7.2.1
    have kj_7 : KJ τ τ_7 := kj_tr kj_2 hp_7.2.2
    exact ok_r ⟨(Or.inl rfl), k_7, kj_7⟩
set_option maxHeartbeats 2000000 in
theorem s_B_X1_arrives_0 (N : Nat) (hN : 4294967296 ≤ N) (d : Nat) (td : gx_isS d) (σ : gI) (τ : gJ) (x2 : Int32) (x3 : Int32) (x4 : Int32) (hI : IC σ) : okp (Kq σ τ (fun a => a = 0 ∨ a = 1)) (B_X1_arrives_0 N d σ τ x2 x3 x4) := by
  unfold B_X1_arrives_0
  have hd := isS_rng td
  refine ok_ite (fun c_1 => ?_) (fun c_1 => ?_)
  · simp only [fa_lt, fa_le, fa_eq] at c_1
    refine ok_bd (s_B_X6_paperOf_0 N hN d td σ τ x2 ((ks_rf σ).1.2 hI)) (fun r_2 σ_2 τ_2 hp_2 => ?_)
    have k_2 : KS σ σ_2 := ks_eq (ks_rf σ) hp_2.2.1
    have kj_2 : KJ τ τ_2 := kj_eq (kj_rf τ) hp_2.2.2
    exact ok_mono (fun _ _ _ h9 => ⟨h9.1, ks_tr k_2 h9.2.1, kj_tr kj_2 h9.2.2⟩) (s_B_X1_arrives_23 N hN d td σ_2 τ_2 x2 x3 (r_2 - x4) (k_2.1.2 hI))
  · simp only [fa_lt, fa_le, fa_eq] at c_1
    refine ok_bd (s_B_X6_paperOf_0 N hN d td σ τ x2 ((ks_rf σ).1.2 hI)) (fun r_3 σ_3 τ_3 hp_3 => ?_)
    have k_3 : KS σ σ_3 := ks_eq (ks_rf σ) hp_3.2.1
    have kj_3 : KJ τ τ_3 := kj_eq (kj_rf τ) hp_3.2.2
    exact ok_mono (fun _ _ _ h9 => ⟨h9.1, ks_tr k_3 h9.2.1, kj_tr kj_3 h9.2.2⟩) (s_B_X1_arrives_23 N hN d td σ_3 τ_3 x2 x3 r_3 (k_3.1.2 hI))
set_option maxHeartbeats 2000000 in
theorem s_B_X1_step_172 (N : Nat) (hN : 4294967296 ≤ N) (d : Nat) (td : gx_isS d) (σ : gI) (τ : gJ) (x2 : Int32) (x6 : Int32) (x7 : Int32) (hI : IC σ) : okp (Kq σ τ (fun a => a = 0 ∨ a = 1)) (B_X1_step_172 N d σ τ x2 x6 x7) := by
  unfold B_X1_step_172
  have hd := isS_rng td
  refine ok_nm (fun σ_1 e_1 => ?_)
  have k_1 : KS σ σ_1 := ks_up (ks_rf σ) e_1 (by omega) (by omega) (by omega)
  refine ok_bd (s_B_X1_arrives_0 N hN d td σ_1 τ x2 x6 x7 (k_1.1.2 hI)) (fun r_2 σ_2 τ_2 hp_2 => ?_)
  have k_2 : KS σ σ_2 := ks_tr k_1 hp_2.2.1
  have kj_2 : KJ τ τ_2 := kj_tr (kj_rf τ) hp_2.2.2
  have b_1 : r_2 = 0 ∨ r_2 = 1 := hp_2.1
  refine ok_cb b_1 ?_
  exact ok_r ⟨b_1, k_2, kj_2⟩
set_option maxHeartbeats 2000000 in
theorem s_B_X1_step_0 (N : Nat) (hN : 4294967296 ≤ N) (d : Nat) (td : gx_isS d) (σ : gI) (τ : gJ) (x2 : Int32) (x3 : Int32) (hI : IC σ) : okp (Kq σ τ (fun a => a = 0 ∨ a = 1)) (B_X1_step_0 N d σ τ x2 x3) := by
  unfold B_X1_step_0
  have hd := isS_rng td
  refine ok_bd (s_B_X6_spotOf_0 N hN d td σ τ x2 ((ks_rf σ).1.2 hI)) (fun r_1 σ_1 τ_1 hp_1 => ?_)
  have k_1 : KS σ σ_1 := ks_eq (ks_rf σ) hp_1.2.1
  have kj_1 : KJ τ τ_1 := kj_eq (kj_rf τ) hp_1.2.2
  refine ok_bd (s_B_X8_figureOf_0 N hN σ_1 τ_1 r_1 (k_1.1.2 hI)) (fun r_2 σ_2 τ_2 hp_2 => ?_)
  have k_2 : KS σ σ_2 := ks_eq k_1 hp_2.2.1
  have kj_2 : KJ τ τ_2 := kj_eq kj_1 hp_2.2.2
  refine ok_bd (s_B_X8_nextOf_0 N hN σ_2 τ_2 r_1 (k_2.1.2 hI)) (fun r_3 σ_3 τ_3 hp_3 => ?_)
  have k_3 : KS σ σ_3 := ks_eq k_2 hp_3.2.1
  have kj_3 : KJ τ τ_3 := kj_eq kj_2 hp_3.2.2
  refine ok_bd (s_B_X8_kindOf_0 N hN σ_3 τ_3 r_1 (k_3.1.2 hI)) (fun r_4 σ_4 τ_4 hp_4 => ?_)
  have k_4 : KS σ σ_4 := ks_eq k_3 hp_4.2.1
  have kj_4 : KJ τ τ_4 := kj_eq kj_3 hp_4.2.2
  refine ok_ite (fun c_1 => ?_) (fun c_1 => ?_)
  · simp only [fa_lt, fa_le, fa_eq] at c_1
    refine ok_bd (s_B_X1_wayOf_0 N hN d td σ_4 τ_4 x2 r_1 x3 (k_4.1.2 hI)) (fun r_6 σ_6 τ_6 hp_6 => ?_)
    have k_6 : KS σ σ_6 := ks_tr k_4 hp_6.2.1
    have kj_6 : KJ τ τ_6 := kj_tr kj_4 hp_6.2.2
    exact ok_mono (fun _ _ _ h9 => ⟨h9.1, ks_tr k_6 h9.2.1, kj_tr kj_6 h9.2.2⟩) (s_B_X1_step_172 N hN d td σ_6 τ_6 x2 r_6 1 (k_6.1.2 hI))
  · simp only [fa_lt, fa_le, fa_eq] at c_1
    refine ok_ite (fun c_2 => ?_) (fun c_2 => ?_)
    · simp only [fa_lt, fa_le, fa_eq] at c_2
      refine ok_nm (fun v_8 e_8 => ?_)
      exact ok_mono (fun _ _ _ h9 => ⟨h9.1, ks_tr k_4 h9.2.1, kj_tr kj_4 h9.2.2⟩) (s_B_X1_step_172 N hN d td σ_4 τ_4 x2 r_3 v_8 (k_4.1.2 hI))
    · simp only [fa_lt, fa_le, fa_eq] at c_2
      refine ok_ite (fun c_3 => ?_) (fun c_3 => ?_)
      · simp only [fa_lt, fa_le, fa_eq] at c_3
        refine ok_bd (s_B_X1_pays_0 N hN d td σ_4 τ_4 x2 r_2 (k_4.1.2 hI)) (fun r_10 σ_10 τ_10 hp_10 => ?_)
        have k_10 : KS σ σ_10 := ks_tr k_4 hp_10.2.1
        have kj_10 : KJ τ τ_10 := kj_tr kj_4 hp_10.2.2
        refine ok_ite (fun c_4 => ?_) (fun c_4 => ?_)
        · simp only [fa_lt, fa_le, fa_eq] at c_4
          exact ok_r ⟨(Or.inl rfl), k_10, kj_10⟩
        · simp only [fa_lt, fa_le, fa_eq] at c_4
          exact ok_mono (fun _ _ _ h9 => ⟨h9.1, ks_tr k_10 h9.2.1, kj_tr kj_10 h9.2.2⟩) (s_B_X1_step_172 N hN d td σ_10 τ_10 x2 r_3 1 (k_10.1.2 hI))
      · simp only [fa_lt, fa_le, fa_eq] at c_3
        refine ok_ite (fun c_5 => ?_) (fun c_5 => ?_)
        · simp only [fa_lt, fa_le, fa_eq] at c_5
          refine ok_nm (fun v_13 e_13 => ?_)
          refine ok_ite (fun c_6 => ?_) (fun c_6 => ?_)
          · simp only [fa_lt, fa_le, fa_eq] at c_6
            exact ok_mono (fun _ _ _ h9 => ⟨h9.1, ks_tr k_4 h9.2.1, kj_tr kj_4 h9.2.2⟩) (s_B_X1_step_172 N hN d td σ_4 τ_4 x2 r_3 1 (k_4.1.2 hI))
          · simp only [fa_lt, fa_le, fa_eq] at c_6
            refine ok_ite (fun c_7 => ?_) (fun c_7 => ?_)
            · simp only [fa_lt, fa_le, fa_eq] at c_7
              exact ok_mono (fun _ _ _ h9 => ⟨h9.1, ks_tr k_4 h9.2.1, kj_tr kj_4 h9.2.2⟩) (s_B_X1_step_172 N hN d td σ_4 τ_4 x2 r_3 1 (k_4.1.2 hI))
            · simp only [fa_lt, fa_le, fa_eq] at c_7
              refine ok_bd (s_B_X6_lose_0 N hN d td σ_4 τ_4 x2 (k_4.1.2 hI)) (fun _ σ_16 τ_16 hp_16 => ?_)
              have k_16 : KS σ σ_16 := ks_tr k_4 hp_16.2.1
              have kj_16 : KJ τ τ_16 := kj_tr kj_4 hp_16.2.2
              exact ok_r ⟨(Or.inl rfl), k_16, kj_16⟩
        · simp only [fa_lt, fa_le, fa_eq] at c_5
          refine ok_ite (fun c_8 => ?_) (fun c_8 => ?_)
          · simp only [fa_lt, fa_le, fa_eq] at c_8
            refine ok_ite (fun c_9 => ?_) (fun c_9 => ?_)
            · simp only [fa_lt, fa_le, fa_eq] at c_9
              exact ok_r ⟨(Or.inl rfl), k_4, kj_4⟩
            · simp only [fa_lt, fa_le, fa_eq] at c_9
              refine ok_dz (fun h9 => by have h8 := (fa_eq _ _).mp h9; rw [show (0 : Int32).toInt = 0 from rfl] at h8; exact absurd h8 (by have : (0 : Int32).toInt = 0 := rfl; have : (1 : Int32).toInt = 1 := rfl; have : (2 : Int32).toInt = 2 := rfl; have : (3 : Int32).toInt = 3 := rfl; have : (4 : Int32).toInt = 4 := rfl; have : (5 : Int32).toInt = 5 := rfl; have := i32_rng r_2; have := i32_rng r_4; omega)) ?_
              refine ok_ite (fun c_10 => ?_) (fun c_10 => ?_)
              · simp only [fa_lt, fa_le, fa_eq] at c_10
                exact ok_mono (fun _ _ _ h9 => ⟨h9.1, ks_tr k_4 h9.2.1, kj_tr kj_4 h9.2.2⟩) (s_B_X1_step_172 N hN d td σ_4 τ_4 x2 r_3 1 (k_4.1.2 hI))
              · simp only [fa_lt, fa_le, fa_eq] at c_10
                exact ok_r ⟨(Or.inl rfl), k_4, kj_4⟩
          · simp only [fa_lt, fa_le, fa_eq] at c_8
            refine ok_ite (fun c_11 => ?_) (fun c_11 => ?_)
            · simp only [fa_lt, fa_le, fa_eq] at c_11
              exact ok_r ⟨(Or.inl rfl), k_4, kj_4⟩
            · simp only [fa_lt, fa_le, fa_eq] at c_11
              exact ok_mono (fun _ _ _ h9 => ⟨h9.1, ks_tr k_4 h9.2.1, kj_tr kj_4 h9.2.2⟩) (s_B_X1_step_172 N hN d td σ_4 τ_4 x2 r_3 1 (k_4.1.2 hI))
set_option maxHeartbeats 2000000 in
theorem s_C_X1_pass_33 (N : Nat) (hN : 4294967296 ≤ N) (d : Nat) (td : gx_isS d) (rec_11 : gI → gJ → Int32 → Int32 → Option (Unit × gI × gJ)) (n_11 : Nat) (hrec_11 : ∀ (σ : gI) (τ : gJ) (x2 : Int32) (x3 : Int32), IC σ → (0 ≤ x3.toInt) → (2147483647 - x3.toInt).toNat < n_11 → okp (Kq σ τ (fun _ => True)) (rec_11 σ τ x2 x3)) (rec_33 : gI → gJ → Int32 → Int32 → Int32 → Int32 → Option (Unit × gI × gJ)) (n_33 : Nat) (hrec_33 : ∀ (σ : gI) (τ : gJ) (x2 : Int32) (x3 : Int32) (x4 : Int32) (x5 : Int32), IC σ → (0 ≤ x3.toInt) → ((2147483647 - x3.toInt).toNat < n_11 + 1) → (x3.toInt < 2147483647) → (0 ≤ x5.toInt) → (2147483647 - x5.toInt).toNat < n_33 → okp (Kq σ τ (fun _ => True)) (rec_33 σ τ x2 x3 x4 x5)) (σ : gI) (τ : gJ) (x2 : Int32) (x3 : Int32) (x4 : Int32) (x5 : Int32) (hI : IC σ) (h0_11 : 0 ≤ x3.toInt) (hm_11 : (2147483647 - x3.toInt).toNat < n_11 + 1) (hlt_11 : x3.toInt < 2147483647) (h0_33 : 0 ≤ x5.toInt) (hm_33 : (2147483647 - x5.toInt).toNat < n_33 + 1) : okp (Kq σ τ (fun _ => True)) (C_X1_pass_33 N d rec_11 rec_33 σ τ x2 x3 x4 x5) := by
  unfold C_X1_pass_33
  have hd := isS_rng td
  refine ok_ite (fun c_1 => ?_) (fun c_1 => ?_)
  · simp only [fa_lt, fa_le, fa_eq] at c_1
    refine ok_nm (fun v_2 e_2 => ?_)
    exact ok_mono (fun _ _ _ h9 => ⟨h9.1, ks_tr (ks_rf σ) h9.2.1, kj_tr (kj_rf τ) h9.2.2⟩) (hrec_11 σ τ x2 v_2 ((ks_rf σ).1.2 hI) (by have : (0 : Int32).toInt = 0 := rfl; have : (1 : Int32).toInt = 1 := rfl; have := i32_rng v_2; have := i32_rng x2; have := i32_rng x3; have := i32_rng x5; have u_v_2 : v_2.toInt = (x3).toInt + 1 := (by rw [e_2]; have q := ti_add (a := x3) (b := 1) (by rw [show (1 : Int32).toInt = 1 from rfl]; omega) (by rw [show (1 : Int32).toInt = 1 from rfl]; omega); rw [q, show (1 : Int32).toInt = 1 from rfl]); omega) (by have : (1 : Int32).toInt = 1 := rfl; have := i32_rng v_2; have := i32_rng x2; have := i32_rng x3; have := i32_rng x5; have u_v_2 : v_2.toInt = (x3).toInt + 1 := (by rw [e_2]; have q := ti_add (a := x3) (b := 1) (by rw [show (1 : Int32).toInt = 1 from rfl]; omega) (by rw [show (1 : Int32).toInt = 1 from rfl]; omega); rw [q, show (1 : Int32).toInt = 1 from rfl]); omega))
  · simp only [fa_lt, fa_le, fa_eq] at c_1
    refine ok_ite (fun c_2 => ?_) (fun c_2 => ?_)
    · simp only [fa_lt, fa_le, fa_eq] at c_2
      refine ok_nm (fun v_4 e_4 => ?_)
      exact ok_mono (fun _ _ _ h9 => ⟨h9.1, ks_tr (ks_rf σ) h9.2.1, kj_tr (kj_rf τ) h9.2.2⟩) (hrec_11 σ τ x2 v_4 ((ks_rf σ).1.2 hI) (by have : (0 : Int32).toInt = 0 := rfl; have : (1 : Int32).toInt = 1 := rfl; have := i32_rng v_4; have := i32_rng x2; have := i32_rng x3; have := i32_rng x4; have := i32_rng x5; have u_v_4 : v_4.toInt = (x3).toInt + 1 := (by rw [e_4]; have q := ti_add (a := x3) (b := 1) (by rw [show (1 : Int32).toInt = 1 from rfl]; omega) (by rw [show (1 : Int32).toInt = 1 from rfl]; omega); rw [q, show (1 : Int32).toInt = 1 from rfl]); omega) (by have : (0 : Int32).toInt = 0 := rfl; have : (1 : Int32).toInt = 1 := rfl; have := i32_rng v_4; have := i32_rng x2; have := i32_rng x3; have := i32_rng x4; have := i32_rng x5; have u_v_4 : v_4.toInt = (x3).toInt + 1 := (by rw [e_4]; have q := ti_add (a := x3) (b := 1) (by rw [show (1 : Int32).toInt = 1 from rfl]; omega) (by rw [show (1 : Int32).toInt = 1 from rfl]; omega); rw [q, show (1 : Int32).toInt = 1 from rfl]); omega))
    · simp only [fa_lt, fa_le, fa_eq] at c_2
      refine ok_bd (s_B_X1_step_0 N hN d td σ τ x3 x2 ((ks_rf σ).1.2 hI)) (fun r_5 σ_5 τ_5 hp_5 => ?_)
      have k_5 : KS σ σ_5 := ks_tr (ks_rf σ) hp_5.2.1
      have kj_5 : KJ τ τ_5 := kj_tr (kj_rf τ) hp_5.2.2
      refine ok_nm (fun v_6 e_6 => ?_)
      exact ok_mono (fun _ _ _ h9 => ⟨h9.1, ks_tr k_5 h9.2.1, kj_tr kj_5 h9.2.2⟩) (hrec_33 σ_5 τ_5 x2 x3 r_5 v_6 (k_5.1.2 hI) (by have : (0 : Int32).toInt = 0 := rfl; have := i32_rng x2; have := i32_rng x3; have := i32_rng x4; have := i32_rng x5; omega) (by have : (0 : Int32).toInt = 0 := rfl; have : (1 : Int32).toInt = 1 := rfl; have := i32_rng x2; have := i32_rng x3; have := i32_rng x4; have := i32_rng x5; omega) (by have : (0 : Int32).toInt = 0 := rfl; have := i32_rng x2; have := i32_rng x3; have := i32_rng x4; have := i32_rng x5; omega) (by have : (0 : Int32).toInt = 0 := rfl; have : (1 : Int32).toInt = 1 := rfl; have := i32_rng v_6; have := i32_rng x2; have := i32_rng x3; have := i32_rng x4; have := i32_rng x5; have u_v_6 : v_6.toInt = (x5).toInt + 1 := (by rw [e_6]; have q := ti_add (a := x5) (b := 1) (by rw [show (1 : Int32).toInt = 1 from rfl]; omega) (by rw [show (1 : Int32).toInt = 1 from rfl]; omega); rw [q, show (1 : Int32).toInt = 1 from rfl]); omega) (by have : (0 : Int32).toInt = 0 := rfl; have : (1 : Int32).toInt = 1 := rfl; have := i32_rng v_6; have := i32_rng x2; have := i32_rng x3; have := i32_rng x4; have := i32_rng x5; have u_v_6 : v_6.toInt = (x5).toInt + 1 := (by rw [e_6]; have q := ti_add (a := x5) (b := 1) (by rw [show (1 : Int32).toInt = 1 from rfl]; omega) (by rw [show (1 : Int32).toInt = 1 from rfl]; omega); rw [q, show (1 : Int32).toInt = 1 from rfl]); omega))
theorem s_H_X1_pass_33 (N : Nat) (hN : 4294967296 ≤ N) (d : Nat) (td : gx_isS d) (rec_11 : gI → gJ → Int32 → Int32 → Option (Unit × gI × gJ)) (n_11 : Nat) (hrec_11 : ∀ (σ : gI) (τ : gJ) (x2 : Int32) (x3 : Int32), IC σ → (0 ≤ x3.toInt) → (2147483647 - x3.toInt).toNat < n_11 → okp (Kq σ τ (fun _ => True)) (rec_11 σ τ x2 x3)) : ∀ (n : Nat) (σ : gI) (τ : gJ) (x2 : Int32) (x3 : Int32) (x4 : Int32) (x5 : Int32), IC σ → (0 ≤ x3.toInt) → ((2147483647 - x3.toInt).toNat < n_11 + 1) → (x3.toInt < 2147483647) → (0 ≤ x5.toInt) → (2147483647 - x5.toInt).toNat < n → okp (Kq σ τ (fun _ => True)) (H_X1_pass_33 N d rec_11 n σ τ x2 x3 x4 x5) := by
  intro n
  induction n with
  | zero => intro σ τ x2 x3 x4 x5 _ _ _ _ _ hm; exact absurd hm (Nat.not_lt_zero _)
  | succ n ih =>
    intro σ τ x2 x3 x4 x5 hI h0_11 hm_11 hlt_11 h0_33 hm
    exact s_C_X1_pass_33 N hN d td rec_11 n_11 hrec_11 (H_X1_pass_33 N d rec_11 n) n ih σ τ x2 x3 x4 x5 hI h0_11 hm_11 hlt_11 h0_33 hm
set_option maxHeartbeats 2000000 in
theorem s_C_X1_pass_11 (N : Nat) (hN : 4294967296 ≤ N) (d : Nat) (td : gx_isS d) (rec_11 : gI → gJ → Int32 → Int32 → Option (Unit × gI × gJ)) (n_11 : Nat) (hrec_11 : ∀ (σ : gI) (τ : gJ) (x2 : Int32) (x3 : Int32), IC σ → (0 ≤ x3.toInt) → (2147483647 - x3.toInt).toNat < n_11 → okp (Kq σ τ (fun _ => True)) (rec_11 σ τ x2 x3)) (σ : gI) (τ : gJ) (x2 : Int32) (x3 : Int32) (hI : IC σ) (h0_11 : 0 ≤ x3.toInt) (hm_11 : (2147483647 - x3.toInt).toNat < n_11 + 1) : okp (Kq σ τ (fun _ => True)) (C_X1_pass_11 N d rec_11 σ τ x2 x3) := by
  unfold C_X1_pass_11
  have hd := isS_rng td
  refine ok_ite (fun c_1 => ?_) (fun c_1 => ?_)
  · simp only [fa_lt, fa_le, fa_eq] at c_1
    refine ok_nm (fun σ_2 e_2 => ?_)
    have k_2 : KS σ σ_2 := ks_up (ks_rf σ) e_2 (by omega) (by omega) (by omega)
    exact ok_r ⟨trivial, k_2, (kj_rf τ)⟩
  · simp only [fa_lt, fa_le, fa_eq] at c_1
    refine ok_ite (fun c_2 => ?_) (fun c_2 => ?_)
    · simp only [fa_lt, fa_le, fa_eq] at c_2
      refine ok_nm (fun σ_4 e_4 => ?_)
      have k_4 : KS σ σ_4 := ks_up (ks_rf σ) e_4 (by omega) (by omega) (by omega)
      exact ok_r ⟨trivial, k_4, (kj_rf τ)⟩
    · simp only [fa_lt, fa_le, fa_eq] at c_2
      refine ok_bd (s_B_X6_isAfloat_0 N hN d td σ τ x3 ((ks_rf σ).1.2 hI)) (fun r_5 σ_5 τ_5 hp_5 => ?_)
      have k_5 : KS σ σ_5 := ks_eq (ks_rf σ) hp_5.2.1
      have kj_5 : KJ τ τ_5 := kj_eq (kj_rf τ) hp_5.2.2
      exact ok_mono (fun _ _ _ h9 => ⟨h9.1, ks_tr k_5 h9.2.1, kj_tr kj_5 h9.2.2⟩) (s_H_X1_pass_33 N hN d td rec_11 n_11 hrec_11 N σ_5 τ_5 x2 x3 r_5 0 (k_5.1.2 hI) (by have : (0 : Int32).toInt = 0 := rfl; have : (6 : Int32).toInt = 6 := rfl; have := i32_rng (σ d 6); have := i32_rng x2; have := i32_rng x3; omega) (by have : (0 : Int32).toInt = 0 := rfl; have : (1 : Int32).toInt = 1 := rfl; have : (6 : Int32).toInt = 6 := rfl; have := i32_rng (σ d 6); have := i32_rng x2; have := i32_rng x3; omega) (by have : (0 : Int32).toInt = 0 := rfl; have : (6 : Int32).toInt = 6 := rfl; have := i32_rng (σ d 6); have := i32_rng x2; have := i32_rng x3; omega) (by have : (0 : Int32).toInt = 0 := rfl; have : (6 : Int32).toInt = 6 := rfl; have := i32_rng (σ d 6); have := i32_rng x2; have := i32_rng x3; omega) (by have : (0 : Int32).toInt = 0 := rfl; have : (6 : Int32).toInt = 6 := rfl; have := i32_rng (σ d 6); have := i32_rng x2; have := i32_rng x3; omega))
theorem s_H_X1_pass_11 (N : Nat) (hN : 4294967296 ≤ N) (d : Nat) (td : gx_isS d) : ∀ (n : Nat) (σ : gI) (τ : gJ) (x2 : Int32) (x3 : Int32), IC σ → (0 ≤ x3.toInt) → (2147483647 - x3.toInt).toNat < n → okp (Kq σ τ (fun _ => True)) (H_X1_pass_11 N d n σ τ x2 x3) := by
  intro n
  induction n with
  | zero => intro σ τ x2 x3 _ _ hm; exact absurd hm (Nat.not_lt_zero _)
  | succ n ih =>
    intro σ τ x2 x3 hI h0_11 hm
    exact s_C_X1_pass_11 N hN d td (H_X1_pass_11 N d n) n ih σ τ x2 x3 hI h0_11 hm
set_option maxHeartbeats 2000000 in
theorem s_B_X1_pass_0 (N : Nat) (hN : 4294967296 ≤ N) (d : Nat) (td : gx_isS d) (σ : gI) (τ : gJ) (hI : IC σ) : okp (Kq σ τ (fun _ => True)) (B_X1_pass_0 N d σ τ) := by
  unfold B_X1_pass_0
  have hd := isS_rng td
  refine ok_bd (s_B_X1_flowIn_0 N hN σ τ (σ d 8) ((ks_rf σ).1.2 hI)) (fun r_1 σ_1 τ_1 hp_1 => ?_)
  have k_1 : KS σ σ_1 := ks_eq (ks_rf σ) hp_1.2.1
  have kj_1 : KJ τ τ_1 := kj_eq (kj_rf τ) hp_1.2.2
  exact ok_mono (fun _ _ _ h9 => ⟨h9.1, ks_tr k_1 h9.2.1, kj_tr kj_1 h9.2.2⟩) (s_H_X1_pass_11 N hN d td N σ_1 τ_1 r_1 0 (k_1.1.2 hI) (by have : (0 : Int32).toInt = 0 := rfl; omega) (by have : (0 : Int32).toInt = 0 := rfl; omega))
set_option maxHeartbeats 2000000 in
theorem s_C_X9_go_7 (N : Nat) (hN : 4294967296 ≤ N) (rec_7 : gI → gJ → Int32 → Option (Int32 × gI × gJ)) (n_7 : Nat) (hrec_7 : ∀ (σ : gI) (τ : gJ) (x2 : Int32), IC σ → (0 ≤ x2.toInt) → (2147483647 - x2.toInt).toNat < n_7 → okp (Kq σ τ (fun _ => True)) (rec_7 σ τ x2)) (σ : gI) (τ : gJ) (x2 : Int32) (hI : IC σ) (h0_7 : 0 ≤ x2.toInt) (hm_7 : (2147483647 - x2.toInt).toNat < n_7 + 1) : okp (Kq σ τ (fun _ => True)) (C_X9_go_7 N rec_7 σ τ x2) := by
  unfold C_X9_go_7
  refine ok_ite (fun c_1 => ?_) (fun c_1 => ?_)
  · simp only [fa_lt, fa_le, fa_eq] at c_1
    exact ok_r ⟨trivial, (ks_rf σ), (kj_rf τ)⟩
  · simp only [fa_lt, fa_le, fa_eq] at c_1
    refine ok_ite (fun c_2 => ?_) (fun c_2 => ?_)
    · simp only [fa_lt, fa_le, fa_eq] at c_2
      refine ok_ite (fun c_3 => ?_) (fun c_3 => ?_)
      · simp only [fa_lt, fa_le, fa_eq] at c_3
        refine ok_bd (s_B_X6_spotOf_0 N hN 171 is_171 σ τ (σ 160 6) ((ks_rf σ).1.2 hI)) (fun r_8 σ_8 τ_8 hp_8 => ?_)
        have k_8 : KS σ σ_8 := ks_eq (ks_rf σ) hp_8.2.1
        have kj_8 : KJ τ τ_8 := kj_eq (kj_rf τ) hp_8.2.2
        exact ok_r ⟨trivial, k_8, kj_8⟩
      · simp only [fa_lt, fa_le, fa_eq] at c_3
        refine ok_ite (fun c_4 => ?_) (fun c_4 => ?_)
        · simp only [fa_lt, fa_le, fa_eq] at c_4
          refine ok_nm (fun v_5 e_5 => ?_)
          exact ok_mono (fun _ _ _ h9 => ⟨h9.1, ks_tr (ks_rf σ) h9.2.1, kj_tr (kj_rf τ) h9.2.2⟩) (hrec_7 σ τ v_5 ((ks_rf σ).1.2 hI) (by have : (0 : Int32).toInt = 0 := rfl; have : (1 : Int32).toInt = 1 := rfl; have : (5 : Int32).toInt = 5 := rfl; have : (9 : Int32).toInt = 9 := rfl; have : (10 : Int32).toInt = 10 := rfl; have : (158 : Int32).toInt = 158 := rfl; have : (160 : Int32).toInt = 160 := rfl; have : (171 : Int32).toInt = 171 := rfl; have : (300 : Int32).toInt = 300 := rfl; have := i32_rng (σ 171 9); have := i32_rng (σ 160 5); have := i32_rng (σ 171 10); have := i32_rng (σ 158 5); have := i32_rng v_5; have := i32_rng x2; have u_v_5 : v_5.toInt = (x2).toInt + 1 := (by rw [e_5]; have q := ti_add (a := x2) (b := 1) (by rw [show (1 : Int32).toInt = 1 from rfl]; omega) (by rw [show (1 : Int32).toInt = 1 from rfl]; omega); rw [q, show (1 : Int32).toInt = 1 from rfl]); omega) (by have : (0 : Int32).toInt = 0 := rfl; have : (1 : Int32).toInt = 1 := rfl; have : (5 : Int32).toInt = 5 := rfl; have : (9 : Int32).toInt = 9 := rfl; have : (10 : Int32).toInt = 10 := rfl; have : (158 : Int32).toInt = 158 := rfl; have : (160 : Int32).toInt = 160 := rfl; have : (171 : Int32).toInt = 171 := rfl; have : (300 : Int32).toInt = 300 := rfl; have := i32_rng (σ 171 9); have := i32_rng (σ 160 5); have := i32_rng (σ 171 10); have := i32_rng (σ 158 5); have := i32_rng v_5; have := i32_rng x2; have u_v_5 : v_5.toInt = (x2).toInt + 1 := (by rw [e_5]; have q := ti_add (a := x2) (b := 1) (by rw [show (1 : Int32).toInt = 1 from rfl]; omega) (by rw [show (1 : Int32).toInt = 1 from rfl]; omega); rw [q, show (1 : Int32).toInt = 1 from rfl]); omega))
        · simp only [fa_lt, fa_le, fa_eq] at c_4
          refine ok_bd (s_B_X1_pass_0 N hN 171 is_171 σ τ ((ks_rf σ).1.2 hI)) (fun _ σ_6 τ_6 hp_6 => ?_)
          have k_6 : KS σ σ_6 := ks_tr (ks_rf σ) hp_6.2.1
          have kj_6 : KJ τ τ_6 := kj_tr (kj_rf τ) hp_6.2.2
          refine ok_nm (fun v_7 e_7 => ?_)
          exact ok_mono (fun _ _ _ h9 => ⟨h9.1, ks_tr k_6 h9.2.1, kj_tr kj_6 h9.2.2⟩) (hrec_7 σ_6 τ_6 v_7 (k_6.1.2 hI) (by have : (0 : Int32).toInt = 0 := rfl; have : (1 : Int32).toInt = 1 := rfl; have : (5 : Int32).toInt = 5 := rfl; have : (9 : Int32).toInt = 9 := rfl; have : (10 : Int32).toInt = 10 := rfl; have : (158 : Int32).toInt = 158 := rfl; have : (160 : Int32).toInt = 160 := rfl; have : (171 : Int32).toInt = 171 := rfl; have : (300 : Int32).toInt = 300 := rfl; have := i32_rng (σ 171 9); have := i32_rng (σ 160 5); have := i32_rng (σ 171 10); have := i32_rng (σ 158 5); have := i32_rng v_7; have := i32_rng x2; have u_v_7 : v_7.toInt = (x2).toInt + 1 := (by rw [e_7]; have q := ti_add (a := x2) (b := 1) (by rw [show (1 : Int32).toInt = 1 from rfl]; omega) (by rw [show (1 : Int32).toInt = 1 from rfl]; omega); rw [q, show (1 : Int32).toInt = 1 from rfl]); omega) (by have : (0 : Int32).toInt = 0 := rfl; have : (1 : Int32).toInt = 1 := rfl; have : (5 : Int32).toInt = 5 := rfl; have : (9 : Int32).toInt = 9 := rfl; have : (10 : Int32).toInt = 10 := rfl; have : (158 : Int32).toInt = 158 := rfl; have : (160 : Int32).toInt = 160 := rfl; have : (171 : Int32).toInt = 171 := rfl; have : (300 : Int32).toInt = 300 := rfl; have := i32_rng (σ 171 9); have := i32_rng (σ 160 5); have := i32_rng (σ 171 10); have := i32_rng (σ 158 5); have := i32_rng v_7; have := i32_rng x2; have u_v_7 : v_7.toInt = (x2).toInt + 1 := (by rw [e_7]; have q := ti_add (a := x2) (b := 1) (by rw [show (1 : Int32).toInt = 1 from rfl]; omega) (by rw [show (1 : Int32).toInt = 1 from rfl]; omega); rw [q, show (1 : Int32).toInt = 1 from rfl]); omega))
    · simp only [fa_lt, fa_le, fa_eq] at c_2
      exact ok_r ⟨trivial, (ks_rf σ), (kj_rf τ)⟩
theorem s_H_X9_go_7 (N : Nat) (hN : 4294967296 ≤ N) : ∀ (n : Nat) (σ : gI) (τ : gJ) (x2 : Int32), IC σ → (0 ≤ x2.toInt) → (2147483647 - x2.toInt).toNat < n → okp (Kq σ τ (fun _ => True)) (H_X9_go_7 N n σ τ x2) := by
  intro n
  induction n with
  | zero => intro σ τ x2 _ _ hm; exact absurd hm (Nat.not_lt_zero _)
  | succ n ih =>
    intro σ τ x2 hI h0_7 hm
    exact s_C_X9_go_7 N hN (H_X9_go_7 N n) n ih σ τ x2 hI h0_7 hm
set_option maxHeartbeats 2000000 in
theorem s_B_X9_go_0 (N : Nat) (hN : 4294967296 ≤ N) (σ : gI) (τ : gJ) (x1 : Int32) (hI : IC σ) : okp (Kq σ τ (fun _ => True)) (B_X9_go_0 N σ τ x1) := by
  unfold B_X9_go_0
  refine ok_bd (s_B_X9_begin_0 N hN σ τ x1 ((ks_rf σ).1.2 hI)) (fun _ σ_1 τ_1 hp_1 => ?_)
  have k_1 : KS σ σ_1 := ks_tr (ks_rf σ) hp_1.2.1
  have kj_1 : KJ τ τ_1 := kj_tr (kj_rf τ) hp_1.2.2
  exact ok_mono (fun _ _ _ h9 => ⟨h9.1, ks_tr k_1 h9.2.1, kj_tr kj_1 h9.2.2⟩) (s_H_X9_go_7 N hN N σ_1 τ_1 0 (k_1.1.2 hI) (by have : (0 : Int32).toInt = 0 := rfl; omega) (by have : (0 : Int32).toInt = 0 := rfl; omega))
set_option maxHeartbeats 2000000 in
theorem s_B_X11_sailed_0 (N : Nat) (hN : 4294967296 ≤ N) (σ : gI) (τ : gJ) (x1 : Int32) (x2 : Int32) (x3 : Int32) (x4 : Int32) (hI : IC σ) : okp (Kq σ τ (fun _ => True)) (B_X11_sailed_0 N σ τ x1 x2 x3 x4) := by
  unfold B_X11_sailed_0
  refine ok_bd (s_B_X9_thinkOf_0 N hN σ τ x1 x2 x3 x4 (σ 30 8) ((ks_rf σ).1.2 hI)) (fun _ σ_1 τ_1 hp_1 => ?_)
  have k_1 : KS σ σ_1 := ks_tr (ks_rf σ) hp_1.2.1
  have kj_1 : KJ τ τ_1 := kj_tr (kj_rf τ) hp_1.2.2
  refine ok_bd (s_B_X9_go_0 N hN σ_1 τ_1 (σ_1 30 7) (k_1.1.2 hI)) (fun r_2 σ_2 τ_2 hp_2 => ?_)
  have k_2 : KS σ σ_2 := ks_tr k_1 hp_2.2.1
  have kj_2 : KJ τ τ_2 := kj_tr kj_1 hp_2.2.2
  exact ok_r ⟨trivial, k_2, kj_2⟩
set_option maxHeartbeats 2000000 in
theorem s_B_X11_isIn_0 (N : Nat) (hN : 4294967296 ≤ N) (σ : gI) (τ : gJ) (x0 : Int32) (x1 : Int32) (hI : IC σ) : okp (Kqe σ τ (fun a => a = 0 ∨ a = 1)) (B_X11_isIn_0 N σ τ x0 x1) := by
  unfold B_X11_isIn_0
  refine ok_ite (fun c_1 => ?_) (fun c_1 => ?_)
  · simp only [fa_lt, fa_le, fa_eq] at c_1
    exact ok_r ⟨(Or.inl rfl), (Eq.refl σ), (Eq.refl τ)⟩
  · simp only [fa_lt, fa_le, fa_eq] at c_1
    refine ok_ite (fun c_2 => ?_) (fun c_2 => ?_)
    · simp only [fa_lt, fa_le, fa_eq] at c_2
      exact ok_r ⟨(Or.inr rfl), (Eq.refl σ), (Eq.refl τ)⟩
    · simp only [fa_lt, fa_le, fa_eq] at c_2
      exact ok_r ⟨(Or.inl rfl), (Eq.refl σ), (Eq.refl τ)⟩
set_option maxHeartbeats 2000000 in
theorem s_B_X4_tell__0 (N : Nat) (hN : 4294967296 ≤ N) (σ : gI) (τ : gJ) (x1 : Int64) (x3 : Int64) (hI : IC σ) : okp (Kq σ τ (fun _ => True)) (B_X4_tell__0 N σ τ x1 x3) := by
  unfold B_X4_tell__0
  refine ok_nm (fun τ_1 e_1 => ?_)
  have kj_1 : KJ τ τ_1 := kj_up (kj_rf τ) e_1 (by omega)
  refine ok_nm (fun τ_2 e_2 => ?_)
  have kj_2 : KJ τ τ_2 := kj_up kj_1 e_2 (by omega)
  refine ok_nm (fun σ_3 e_3 => ?_)
  have k_3 : KS σ σ_3 := ks_up (ks_rf σ) e_3 (by omega) (by omega) (by omega)
  exact ok_r ⟨trivial, k_3, kj_2⟩
set_option maxHeartbeats 2000000 in
theorem s_B_X11_basin_101 (N : Nat) (hN : 4294967296 ≤ N) (rec_33 : gI → gJ → Int32 → Int32 → Int32 → Int32 → Int32 → Int32 → Int32 → Option (Int32 × gI × gJ)) (n_33 : Nat) (hrec_33 : ∀ (σ : gI) (τ : gJ) (x1 : Int32) (x2 : Int32) (x3 : Int32) (x4 : Int32) (x5 : Int32) (x6 : Int32) (x7 : Int32), IC σ → (0 ≤ x7.toInt) → (2147483647 - x7.toInt).toNat < n_33 → okp (Kq σ τ (fun _ => True)) (rec_33 σ τ x1 x2 x3 x4 x5 x6 x7)) (σ : gI) (τ : gJ) (x1 : Int32) (x2 : Int32) (x3 : Int32) (x4 : Int32) (x6 : Int32) (x7 : Int32) (y0 : Int32) (y1 : Int32) (hI : IC σ) (h0_33 : 0 ≤ x7.toInt) (hm_33 : (2147483647 - x7.toInt).toNat < n_33 + 1) (hlt_33 : x7.toInt < 2147483647) : okp (Kq σ τ (fun _ => True)) (B_X11_basin_101 N rec_33 σ τ x1 x2 x3 x4 x6 x7 y0 y1) := by
  unfold B_X11_basin_101
  refine ok_nm (fun v_1 e_1 => ?_)
  refine ok_ite (fun c_1 => ?_) (fun c_1 => ?_)
  · simp only [fa_lt, fa_le, fa_eq] at c_1
    refine ok_nm (fun v_3 e_3 => ?_)
    refine ok_nm (fun v_4 e_4 => ?_)
    exact ok_mono (fun _ _ _ h9 => ⟨h9.1, ks_tr (ks_rf σ) h9.2.1, kj_tr (kj_rf τ) h9.2.2⟩) (hrec_33 σ τ x1 x2 x3 x4 v_1 v_3 v_4 ((ks_rf σ).1.2 hI) (by have : (0 : Int32).toInt = 0 := rfl; have : (1 : Int32).toInt = 1 := rfl; have : (10 : Int32).toInt = 10 := rfl; have : (171 : Int32).toInt = 171 := rfl; have := i32_rng (σ 171 10); have := i32_rng v_4; have := i32_rng x7; have u_v_4 : v_4.toInt = (x7).toInt + 1 := (by rw [e_4]; have q := ti_add (a := x7) (b := 1) (by rw [show (1 : Int32).toInt = 1 from rfl]; omega) (by rw [show (1 : Int32).toInt = 1 from rfl]; omega); rw [q, show (1 : Int32).toInt = 1 from rfl]); omega) (by have : (0 : Int32).toInt = 0 := rfl; have : (1 : Int32).toInt = 1 := rfl; have : (10 : Int32).toInt = 10 := rfl; have : (171 : Int32).toInt = 171 := rfl; have := i32_rng (σ 171 10); have := i32_rng v_4; have := i32_rng x7; have u_v_4 : v_4.toInt = (x7).toInt + 1 := (by rw [e_4]; have q := ti_add (a := x7) (b := 1) (by rw [show (1 : Int32).toInt = 1 from rfl]; omega) (by rw [show (1 : Int32).toInt = 1 from rfl]; omega); rw [q, show (1 : Int32).toInt = 1 from rfl]); omega))
  · simp only [fa_lt, fa_le, fa_eq] at c_1
    refine ok_nm (fun v_5 e_5 => ?_)
    refine ok_nm (fun v_6 e_6 => ?_)
    exact ok_mono (fun _ _ _ h9 => ⟨h9.1, ks_tr (ks_rf σ) h9.2.1, kj_tr (kj_rf τ) h9.2.2⟩) (hrec_33 σ τ x1 x2 x3 x4 v_1 v_5 v_6 ((ks_rf σ).1.2 hI) (by have : (0 : Int32).toInt = 0 := rfl; have : (1 : Int32).toInt = 1 := rfl; have : (10 : Int32).toInt = 10 := rfl; have : (171 : Int32).toInt = 171 := rfl; have := i32_rng (σ 171 10); have := i32_rng v_6; have := i32_rng x7; have u_v_6 : v_6.toInt = (x7).toInt + 1 := (by rw [e_6]; have q := ti_add (a := x7) (b := 1) (by rw [show (1 : Int32).toInt = 1 from rfl]; omega) (by rw [show (1 : Int32).toInt = 1 from rfl]; omega); rw [q, show (1 : Int32).toInt = 1 from rfl]); omega) (by have : (0 : Int32).toInt = 0 := rfl; have : (1 : Int32).toInt = 1 := rfl; have : (10 : Int32).toInt = 10 := rfl; have : (171 : Int32).toInt = 171 := rfl; have := i32_rng (σ 171 10); have := i32_rng v_6; have := i32_rng x7; have u_v_6 : v_6.toInt = (x7).toInt + 1 := (by rw [e_6]; have q := ti_add (a := x7) (b := 1) (by rw [show (1 : Int32).toInt = 1 from rfl]; omega) (by rw [show (1 : Int32).toInt = 1 from rfl]; omega); rw [q, show (1 : Int32).toInt = 1 from rfl]); omega))
set_option maxHeartbeats 2000000 in
theorem s_C_X11_basin_33 (N : Nat) (hN : 4294967296 ≤ N) (rec_33 : gI → gJ → Int32 → Int32 → Int32 → Int32 → Int32 → Int32 → Int32 → Option (Int32 × gI × gJ)) (n_33 : Nat) (hrec_33 : ∀ (σ : gI) (τ : gJ) (x1 : Int32) (x2 : Int32) (x3 : Int32) (x4 : Int32) (x5 : Int32) (x6 : Int32) (x7 : Int32), IC σ → (0 ≤ x7.toInt) → (2147483647 - x7.toInt).toNat < n_33 → okp (Kq σ τ (fun _ => True)) (rec_33 σ τ x1 x2 x3 x4 x5 x6 x7)) (σ : gI) (τ : gJ) (x1 : Int32) (x2 : Int32) (x3 : Int32) (x4 : Int32) (x5 : Int32) (x6 : Int32) (x7 : Int32) (hI : IC σ) (h0_33 : 0 ≤ x7.toInt) (hm_33 : (2147483647 - x7.toInt).toNat < n_33 + 1) : okp (Kq σ τ (fun _ => True)) (C_X11_basin_33 N rec_33 σ τ x1 x2 x3 x4 x5 x6 x7) := by
  unfold C_X11_basin_33
  refine ok_ite (fun c_1 => ?_) (fun c_1 => ?_)
  · simp only [fa_lt, fa_le, fa_eq] at c_1
    refine ok_bd (s_B_X4_tell__0 N hN σ τ x5.toInt64 x6.toInt64 ((ks_rf σ).1.2 hI)) (fun _ σ_2 τ_2 hp_2 => ?_)
    have k_2 : KS σ σ_2 := ks_tr (ks_rf σ) hp_2.2.1
    have kj_2 : KJ τ τ_2 := kj_tr (kj_rf τ) hp_2.2.2
    exact ok_r ⟨trivial, k_2, kj_2⟩
  · simp only [fa_lt, fa_le, fa_eq] at c_1
    refine ok_bd (s_B_X11_sailed_0 N hN σ τ x7 x1 x2 0 ((ks_rf σ).1.2 hI)) (fun r_3 σ_3 τ_3 hp_3 => ?_)
    have k_3 : KS σ σ_3 := ks_tr (ks_rf σ) hp_3.2.1
    have kj_3 : KJ τ τ_3 := kj_tr (kj_rf τ) hp_3.2.2
    refine ok_bd (s_B_X11_isIn_0 N hN σ_3 τ_3 r_3 x3 (k_3.1.2 hI)) (fun r_4 σ_4 τ_4 hp_4 => ?_)
    have k_4 : KS σ σ_4 := ks_eq k_3 hp_4.2.1
    have kj_4 : KJ τ τ_4 := kj_eq kj_3 hp_4.2.2
    refine ok_ite (fun c_2 => ?_) (fun c_2 => ?_)
    · simp only [fa_lt, fa_le, fa_eq] at c_2
      refine ok_nm (fun v_6 e_6 => ?_)
      refine ok_ite (fun c_3 => ?_) (fun c_3 => ?_)
      · simp only [fa_lt, fa_le, fa_eq] at c_3
        exact ok_mono (fun _ _ _ h9 => ⟨h9.1, ks_tr k_4 h9.2.1, kj_tr kj_4 h9.2.2⟩) (s_B_X11_basin_101 N hN rec_33 n_33 hrec_33 σ_4 τ_4 x1 x2 x3 v_6 x6 x7 0 x5 (k_4.1.2 hI) (by have : (0 : Int32).toInt = 0 := rfl; have : (3 : Int32).toInt = 3 := rfl; have : (6 : Int32).toInt = 6 := rfl; have : (9 : Int32).toInt = 9 := rfl; have : (171 : Int32).toInt = 171 := rfl; have := i32_rng (σ_4 171 9); have := i32_rng (σ_3 171 9); have := i32_rng (σ 3 6); have := i32_rng r_4; have := i32_rng x7; have : (σ_4 171 9).toInt = (σ_3 171 9).toInt := (by simp [up2, hp_4.2.1]); omega) (by have : (0 : Int32).toInt = 0 := rfl; have : (1 : Int32).toInt = 1 := rfl; have : (3 : Int32).toInt = 3 := rfl; have : (6 : Int32).toInt = 6 := rfl; have : (9 : Int32).toInt = 9 := rfl; have : (171 : Int32).toInt = 171 := rfl; have := i32_rng (σ_4 171 9); have := i32_rng (σ_3 171 9); have := i32_rng (σ 3 6); have := i32_rng r_4; have := i32_rng x7; have : (σ_4 171 9).toInt = (σ_3 171 9).toInt := (by simp [up2, hp_4.2.1]); omega) (by have : (0 : Int32).toInt = 0 := rfl; have : (3 : Int32).toInt = 3 := rfl; have : (6 : Int32).toInt = 6 := rfl; have : (9 : Int32).toInt = 9 := rfl; have : (171 : Int32).toInt = 171 := rfl; have := i32_rng (σ_4 171 9); have := i32_rng (σ_3 171 9); have := i32_rng (σ 3 6); have := i32_rng r_4; have := i32_rng x7; have : (σ_4 171 9).toInt = (σ_3 171 9).toInt := (by simp [up2, hp_4.2.1]); omega))
      · simp only [fa_lt, fa_le, fa_eq] at c_3
        exact ok_mono (fun _ _ _ h9 => ⟨h9.1, ks_tr k_4 h9.2.1, kj_tr kj_4 h9.2.2⟩) (s_B_X11_basin_101 N hN rec_33 n_33 hrec_33 σ_4 τ_4 x1 x2 x3 v_6 x6 x7 (1 <<< (x7 &&& 31)) x5 (k_4.1.2 hI) (by have : (0 : Int32).toInt = 0 := rfl; have : (3 : Int32).toInt = 3 := rfl; have : (6 : Int32).toInt = 6 := rfl; have : (9 : Int32).toInt = 9 := rfl; have : (171 : Int32).toInt = 171 := rfl; have := i32_rng (σ_4 171 9); have := i32_rng (σ_3 171 9); have := i32_rng (σ 3 6); have := i32_rng r_4; have := i32_rng x7; have : (σ_4 171 9).toInt = (σ_3 171 9).toInt := (by simp [up2, hp_4.2.1]); omega) (by have : (0 : Int32).toInt = 0 := rfl; have : (1 : Int32).toInt = 1 := rfl; have : (3 : Int32).toInt = 3 := rfl; have : (6 : Int32).toInt = 6 := rfl; have : (9 : Int32).toInt = 9 := rfl; have : (171 : Int32).toInt = 171 := rfl; have := i32_rng (σ_4 171 9); have := i32_rng (σ_3 171 9); have := i32_rng (σ 3 6); have := i32_rng r_4; have := i32_rng x7; have : (σ_4 171 9).toInt = (σ_3 171 9).toInt := (by simp [up2, hp_4.2.1]); omega) (by have : (0 : Int32).toInt = 0 := rfl; have : (3 : Int32).toInt = 3 := rfl; have : (6 : Int32).toInt = 6 := rfl; have : (9 : Int32).toInt = 9 := rfl; have : (171 : Int32).toInt = 171 := rfl; have := i32_rng (σ_4 171 9); have := i32_rng (σ_3 171 9); have := i32_rng (σ 3 6); have := i32_rng r_4; have := i32_rng x7; have : (σ_4 171 9).toInt = (σ_3 171 9).toInt := (by simp [up2, hp_4.2.1]); omega))
    · simp only [fa_lt, fa_le, fa_eq] at c_2
      refine ok_nm (fun v_8 e_8 => ?_)
      refine ok_ite (fun c_4 => ?_) (fun c_4 => ?_)
      · simp only [fa_lt, fa_le, fa_eq] at c_4
        exact ok_mono (fun _ _ _ h9 => ⟨h9.1, ks_tr k_4 h9.2.1, kj_tr kj_4 h9.2.2⟩) (s_B_X11_basin_101 N hN rec_33 n_33 hrec_33 σ_4 τ_4 x1 x2 x3 v_8 x6 x7 0 x5 (k_4.1.2 hI) (by have : (0 : Int32).toInt = 0 := rfl; have : (3 : Int32).toInt = 3 := rfl; have : (6 : Int32).toInt = 6 := rfl; have : (9 : Int32).toInt = 9 := rfl; have : (171 : Int32).toInt = 171 := rfl; have := i32_rng (σ_4 171 9); have := i32_rng (σ_3 171 9); have := i32_rng (σ 3 6); have := i32_rng r_4; have := i32_rng x7; have : (σ_4 171 9).toInt = (σ_3 171 9).toInt := (by simp [up2, hp_4.2.1]); omega) (by have : (0 : Int32).toInt = 0 := rfl; have : (1 : Int32).toInt = 1 := rfl; have : (3 : Int32).toInt = 3 := rfl; have : (6 : Int32).toInt = 6 := rfl; have : (9 : Int32).toInt = 9 := rfl; have : (171 : Int32).toInt = 171 := rfl; have := i32_rng (σ_4 171 9); have := i32_rng (σ_3 171 9); have := i32_rng (σ 3 6); have := i32_rng r_4; have := i32_rng x7; have : (σ_4 171 9).toInt = (σ_3 171 9).toInt := (by simp [up2, hp_4.2.1]); omega) (by have : (0 : Int32).toInt = 0 := rfl; have : (3 : Int32).toInt = 3 := rfl; have : (6 : Int32).toInt = 6 := rfl; have : (9 : Int32).toInt = 9 := rfl; have : (171 : Int32).toInt = 171 := rfl; have := i32_rng (σ_4 171 9); have := i32_rng (σ_3 171 9); have := i32_rng (σ 3 6); have := i32_rng r_4; have := i32_rng x7; have : (σ_4 171 9).toInt = (σ_3 171 9).toInt := (by simp [up2, hp_4.2.1]); omega))
      · simp only [fa_lt, fa_le, fa_eq] at c_4
        exact ok_mono (fun _ _ _ h9 => ⟨h9.1, ks_tr k_4 h9.2.1, kj_tr kj_4 h9.2.2⟩) (s_B_X11_basin_101 N hN rec_33 n_33 hrec_33 σ_4 τ_4 x1 x2 x3 v_8 x6 x7 (1 <<< (x7 &&& 31)) x5 (k_4.1.2 hI) (by have : (0 : Int32).toInt = 0 := rfl; have : (3 : Int32).toInt = 3 := rfl; have : (6 : Int32).toInt = 6 := rfl; have : (9 : Int32).toInt = 9 := rfl; have : (171 : Int32).toInt = 171 := rfl; have := i32_rng (σ_4 171 9); have := i32_rng (σ_3 171 9); have := i32_rng (σ 3 6); have := i32_rng r_4; have := i32_rng x7; have : (σ_4 171 9).toInt = (σ_3 171 9).toInt := (by simp [up2, hp_4.2.1]); omega) (by have : (0 : Int32).toInt = 0 := rfl; have : (1 : Int32).toInt = 1 := rfl; have : (3 : Int32).toInt = 3 := rfl; have : (6 : Int32).toInt = 6 := rfl; have : (9 : Int32).toInt = 9 := rfl; have : (171 : Int32).toInt = 171 := rfl; have := i32_rng (σ_4 171 9); have := i32_rng (σ_3 171 9); have := i32_rng (σ 3 6); have := i32_rng r_4; have := i32_rng x7; have : (σ_4 171 9).toInt = (σ_3 171 9).toInt := (by simp [up2, hp_4.2.1]); omega) (by have : (0 : Int32).toInt = 0 := rfl; have : (3 : Int32).toInt = 3 := rfl; have : (6 : Int32).toInt = 6 := rfl; have : (9 : Int32).toInt = 9 := rfl; have : (171 : Int32).toInt = 171 := rfl; have := i32_rng (σ_4 171 9); have := i32_rng (σ_3 171 9); have := i32_rng (σ 3 6); have := i32_rng r_4; have := i32_rng x7; have : (σ_4 171 9).toInt = (σ_3 171 9).toInt := (by simp [up2, hp_4.2.1]); omega))
theorem s_H_X11_basin_33 (N : Nat) (hN : 4294967296 ≤ N) : ∀ (n : Nat) (σ : gI) (τ : gJ) (x1 : Int32) (x2 : Int32) (x3 : Int32) (x4 : Int32) (x5 : Int32) (x6 : Int32) (x7 : Int32), IC σ → (0 ≤ x7.toInt) → (2147483647 - x7.toInt).toNat < n → okp (Kq σ τ (fun _ => True)) (H_X11_basin_33 N n σ τ x1 x2 x3 x4 x5 x6 x7) := by
  intro n
  induction n with
  | zero => intro σ τ x1 x2 x3 x4 x5 x6 x7 _ _ hm; exact absurd hm (Nat.not_lt_zero _)
  | succ n ih =>
    intro σ τ x1 x2 x3 x4 x5 x6 x7 hI h0_33 hm
    exact s_C_X11_basin_33 N hN (H_X11_basin_33 N n) n ih σ τ x1 x2 x3 x4 x5 x6 x7 hI h0_33 hm
set_option maxHeartbeats 2000000 in
theorem s_B_X11_basin_0 (N : Nat) (hN : 4294967296 ≤ N) (σ : gI) (τ : gJ) (x1 : Int32) (x2 : Int32) (x3 : Int32) (hI : IC σ) : okp (Kq σ τ (fun _ => True)) (B_X11_basin_0 N σ τ x1 x2 x3) := by
  unfold B_X11_basin_0
  refine ok_bd (s_B_X11_isLoad_0 N hN σ τ x1 x2 ((ks_rf σ).1.2 hI)) (fun r_1 σ_1 τ_1 hp_1 => ?_)
  have k_1 : KS σ σ_1 := ks_eq (ks_rf σ) hp_1.2.1
  have kj_1 : KJ τ τ_1 := kj_eq (kj_rf τ) hp_1.2.2
  refine ok_ite (fun c_1 => ?_) (fun c_1 => ?_)
  · simp only [fa_lt, fa_le, fa_eq] at c_1
    exact ok_r ⟨trivial, k_1, kj_1⟩
  · simp only [fa_lt, fa_le, fa_eq] at c_1
    refine ok_bd (s_B_X8_isKitchen_0 N hN σ_1 τ_1 x3 (k_1.1.2 hI)) (fun r_3 σ_3 τ_3 hp_3 => ?_)
    have k_3 : KS σ σ_3 := ks_eq k_1 hp_3.2.1
    have kj_3 : KJ τ τ_3 := kj_eq kj_1 hp_3.2.2
    refine ok_ite (fun c_2 => ?_) (fun c_2 => ?_)
    · simp only [fa_lt, fa_le, fa_eq] at c_2
      exact ok_r ⟨trivial, k_3, kj_3⟩
    · simp only [fa_lt, fa_le, fa_eq] at c_2
      exact ok_mono (fun _ _ _ h9 => ⟨h9.1, ks_tr k_3 h9.2.1, kj_tr kj_3 h9.2.2⟩) (s_H_X11_basin_33 N hN N σ_3 τ_3 x1 x2 x3 0 0 0 0 (k_3.1.2 hI) (by have : (0 : Int32).toInt = 0 := rfl; have := i32_rng r_1; have := i32_rng r_3; omega) (by have : (0 : Int32).toInt = 0 := rfl; have := i32_rng r_1; have := i32_rng r_3; omega))
set_option maxHeartbeats 2000000 in
theorem s_B_X8_has_0 (N : Nat) (hN : 4294967296 ≤ N) (σ : gI) (τ : gJ) (x1 : Int32) (hI : IC σ) : okp (Kqe σ τ (fun a => a = 0 ∨ a = 1)) (B_X8_has_0 N σ τ x1) := by
  unfold B_X8_has_0
  refine ok_ite (fun c_1 => ?_) (fun c_1 => ?_)
  · simp only [fa_lt, fa_le, fa_eq] at c_1
    exact ok_r ⟨(Or.inl rfl), (Eq.refl σ), (Eq.refl τ)⟩
  · simp only [fa_lt, fa_le, fa_eq] at c_1
    refine ok_ite (fun c_2 => ?_) (fun c_2 => ?_)
    · simp only [fa_lt, fa_le, fa_eq] at c_2
      exact ok_r ⟨(Or.inl rfl), (Eq.refl σ), (Eq.refl τ)⟩
    · simp only [fa_lt, fa_le, fa_eq] at c_2
      exact ok_r ⟨(Or.inr rfl), (Eq.refl σ), (Eq.refl τ)⟩
set_option maxHeartbeats 2000000 in
theorem s_B_X11_minutesOf_0 (N : Nat) (hN : 4294967296 ≤ N) (σ : gI) (τ : gJ) (x0 : Int32) (hI : IC σ) : okp (Kqe σ τ (fun _ => True)) (B_X11_minutesOf_0 N σ τ x0) := by
  unfold B_X11_minutesOf_0
  exact ok_r ⟨trivial, (Eq.refl σ), (Eq.refl τ)⟩
set_option maxHeartbeats 2000000 in
theorem s_B_X4_tell_0 (N : Nat) (hN : 4294967296 ≤ N) (σ : gI) (τ : gJ) (x1 : Int64) (hI : IC σ) : okp (Kq σ τ (fun _ => True)) (B_X4_tell_0 N σ τ x1) := by
  unfold B_X4_tell_0
  refine ok_nm (fun τ_1 e_1 => ?_)
  have kj_1 : KJ τ τ_1 := kj_up (kj_rf τ) e_1 (by omega)
  refine ok_nm (fun σ_2 e_2 => ?_)
  have k_2 : KS σ σ_2 := ks_up (ks_rf σ) e_2 (by omega) (by omega) (by omega)
  exact ok_r ⟨trivial, k_2, kj_1⟩
set_option maxHeartbeats 2000000 in
theorem s_C_X11_boat_35 (N : Nat) (hN : 4294967296 ≤ N) (rec_35 : gI → gJ → Int32 → Int32 → Int32 → Int32 → Option (Int32 × gI × gJ)) (n_35 : Nat) (hrec_35 : ∀ (σ : gI) (τ : gJ) (x1 : Int32) (x2 : Int32) (x3 : Int32) (x4 : Int32), IC σ → (0 ≤ x4.toInt) → (2147483647 - x4.toInt).toNat < n_35 → okp (Kq σ τ (fun _ => True)) (rec_35 σ τ x1 x2 x3 x4)) (σ : gI) (τ : gJ) (x1 : Int32) (x2 : Int32) (x3 : Int32) (x4 : Int32) (hI : IC σ) (h0_35 : 0 ≤ x4.toInt) (hm_35 : (2147483647 - x4.toInt).toNat < n_35 + 1) : okp (Kq σ τ (fun _ => True)) (C_X11_boat_35 N rec_35 σ τ x1 x2 x3 x4) := by
  unfold C_X11_boat_35
  refine ok_ite (fun c_1 => ?_) (fun c_1 => ?_)
  · simp only [fa_lt, fa_le, fa_eq] at c_1
    exact ok_r ⟨trivial, (ks_rf σ), (kj_rf τ)⟩
  · simp only [fa_lt, fa_le, fa_eq] at c_1
    refine ok_bd (s_B_X11_sailed_0 N hN σ τ x1 x4 x2 0 ((ks_rf σ).1.2 hI)) (fun r_2 σ_2 τ_2 hp_2 => ?_)
    have k_2 : KS σ σ_2 := ks_tr (ks_rf σ) hp_2.2.1
    have kj_2 : KJ τ τ_2 := kj_tr (kj_rf τ) hp_2.2.2
    refine ok_bd (s_B_X11_isIn_0 N hN σ_2 τ_2 r_2 x3 (k_2.1.2 hI)) (fun r_3 σ_3 τ_3 hp_3 => ?_)
    have k_3 : KS σ σ_3 := ks_eq k_2 hp_3.2.1
    have kj_3 : KJ τ τ_3 := kj_eq kj_2 hp_3.2.2
    refine ok_ite (fun c_2 => ?_) (fun c_2 => ?_)
    · simp only [fa_lt, fa_le, fa_eq] at c_2
      refine ok_nm (fun v_5 e_5 => ?_)
      exact ok_mono (fun _ _ _ h9 => ⟨h9.1, ks_tr k_3 h9.2.1, kj_tr kj_3 h9.2.2⟩) (hrec_35 σ_3 τ_3 x1 x2 x3 v_5 (k_3.1.2 hI) (by have : (0 : Int32).toInt = 0 := rfl; have : (1 : Int32).toInt = 1 := rfl; have : (99 : Int32).toInt = 99 := rfl; have := i32_rng r_3; have := i32_rng v_5; have := i32_rng x4; have u_v_5 : v_5.toInt = (x4).toInt + 1 := (by rw [e_5]; have q := ti_add (a := x4) (b := 1) (by rw [show (1 : Int32).toInt = 1 from rfl]; omega) (by rw [show (1 : Int32).toInt = 1 from rfl]; omega); rw [q, show (1 : Int32).toInt = 1 from rfl]); omega) (by have : (0 : Int32).toInt = 0 := rfl; have : (1 : Int32).toInt = 1 := rfl; have : (99 : Int32).toInt = 99 := rfl; have := i32_rng r_3; have := i32_rng v_5; have := i32_rng x4; have u_v_5 : v_5.toInt = (x4).toInt + 1 := (by rw [e_5]; have q := ti_add (a := x4) (b := 1) (by rw [show (1 : Int32).toInt = 1 from rfl]; omega) (by rw [show (1 : Int32).toInt = 1 from rfl]; omega); rw [q, show (1 : Int32).toInt = 1 from rfl]); omega))
    · simp only [fa_lt, fa_le, fa_eq] at c_2
      refine ok_bd (s_B_X11_minutesOf_0 N hN σ_3 τ_3 r_2 (k_3.1.2 hI)) (fun r_6 σ_6 τ_6 hp_6 => ?_)
      have k_6 : KS σ σ_6 := ks_eq k_3 hp_6.2.1
      have kj_6 : KJ τ τ_6 := kj_eq kj_3 hp_6.2.2
      refine ok_bd (s_B_X4_tell_0 N hN σ_6 τ_6 r_6.toInt64 (k_6.1.2 hI)) (fun _ σ_7 τ_7 hp_7 => ?_)
      have k_7 : KS σ σ_7 := ks_tr k_6 hp_7.2.1
      have kj_7 : KJ τ τ_7 := kj_tr kj_6 hp_7.2.2
      exact ok_r ⟨trivial, k_7, kj_7⟩
theorem s_H_X11_boat_35 (N : Nat) (hN : 4294967296 ≤ N) : ∀ (n : Nat) (σ : gI) (τ : gJ) (x1 : Int32) (x2 : Int32) (x3 : Int32) (x4 : Int32), IC σ → (0 ≤ x4.toInt) → (2147483647 - x4.toInt).toNat < n → okp (Kq σ τ (fun _ => True)) (H_X11_boat_35 N n σ τ x1 x2 x3 x4) := by
  intro n
  induction n with
  | zero => intro σ τ x1 x2 x3 x4 _ _ hm; exact absurd hm (Nat.not_lt_zero _)
  | succ n ih =>
    intro σ τ x1 x2 x3 x4 hI h0_35 hm
    exact s_C_X11_boat_35 N hN (H_X11_boat_35 N n) n ih σ τ x1 x2 x3 x4 hI h0_35 hm
set_option maxHeartbeats 2000000 in
theorem s_B_X11_boat_0 (N : Nat) (hN : 4294967296 ≤ N) (σ : gI) (τ : gJ) (x1 : Int32) (x2 : Int32) (x3 : Int32) (hI : IC σ) : okp (Kq σ τ (fun _ => True)) (B_X11_boat_0 N σ τ x1 x2 x3) := by
  unfold B_X11_boat_0
  refine ok_bd (s_B_X8_has_0 N hN σ τ x1 ((ks_rf σ).1.2 hI)) (fun r_1 σ_1 τ_1 hp_1 => ?_)
  have k_1 : KS σ σ_1 := ks_eq (ks_rf σ) hp_1.2.1
  have kj_1 : KJ τ τ_1 := kj_eq (kj_rf τ) hp_1.2.2
  refine ok_ite (fun c_1 => ?_) (fun c_1 => ?_)
  · simp only [fa_lt, fa_le, fa_eq] at c_1
    exact ok_r ⟨trivial, k_1, kj_1⟩
  · simp only [fa_lt, fa_le, fa_eq] at c_1
    refine ok_bd (s_B_X11_isLoad_0 N hN σ_1 τ_1 0 x2 (k_1.1.2 hI)) (fun r_3 σ_3 τ_3 hp_3 => ?_)
    have k_3 : KS σ σ_3 := ks_eq k_1 hp_3.2.1
    have kj_3 : KJ τ τ_3 := kj_eq kj_1 hp_3.2.2
    refine ok_ite (fun c_2 => ?_) (fun c_2 => ?_)
    · simp only [fa_lt, fa_le, fa_eq] at c_2
      exact ok_r ⟨trivial, k_3, kj_3⟩
    · simp only [fa_lt, fa_le, fa_eq] at c_2
      refine ok_bd (s_B_X8_isKitchen_0 N hN σ_3 τ_3 x3 (k_3.1.2 hI)) (fun r_5 σ_5 τ_5 hp_5 => ?_)
      have k_5 : KS σ σ_5 := ks_eq k_3 hp_5.2.1
      have kj_5 : KJ τ τ_5 := kj_eq kj_3 hp_5.2.2
      refine ok_ite (fun c_3 => ?_) (fun c_3 => ?_)
      · simp only [fa_lt, fa_le, fa_eq] at c_3
        exact ok_r ⟨trivial, k_5, kj_5⟩
      · simp only [fa_lt, fa_le, fa_eq] at c_3
        exact ok_mono (fun _ _ _ h9 => ⟨h9.1, ks_tr k_5 h9.2.1, kj_tr kj_5 h9.2.2⟩) (s_H_X11_boat_35 N hN N σ_5 τ_5 x1 x2 x3 0 (k_5.1.2 hI) (by have : (0 : Int32).toInt = 0 := rfl; have := i32_rng r_1; have := i32_rng r_3; have := i32_rng r_5; omega) (by have : (0 : Int32).toInt = 0 := rfl; have := i32_rng r_1; have := i32_rng r_3; have := i32_rng r_5; omega))
set_option maxHeartbeats 2000000 in
theorem s_C_X11_coins_35 (N : Nat) (hN : 4294967296 ≤ N) (rec_35 : gI → gJ → Int32 → Int32 → Int32 → Int32 → Option (Int32 × gI × gJ)) (n_35 : Nat) (hrec_35 : ∀ (σ : gI) (τ : gJ) (x1 : Int32) (x2 : Int32) (x3 : Int32) (x4 : Int32), IC σ → (0 ≤ x4.toInt) → (2147483647 - x4.toInt).toNat < n_35 → okp (Kq σ τ (fun _ => True)) (rec_35 σ τ x1 x2 x3 x4)) (σ : gI) (τ : gJ) (x1 : Int32) (x2 : Int32) (x3 : Int32) (x4 : Int32) (hI : IC σ) (h0_35 : 0 ≤ x4.toInt) (hm_35 : (2147483647 - x4.toInt).toNat < n_35 + 1) : okp (Kq σ τ (fun _ => True)) (C_X11_coins_35 N rec_35 σ τ x1 x2 x3 x4) := by
  unfold C_X11_coins_35
  refine ok_ite (fun c_1 => ?_) (fun c_1 => ?_)
  · simp only [fa_lt, fa_le, fa_eq] at c_1
    exact ok_r ⟨trivial, (ks_rf σ), (kj_rf τ)⟩
  · simp only [fa_lt, fa_le, fa_eq] at c_1
    refine ok_bd (s_B_X11_sailed_0 N hN σ τ x1 x2 x4 0 ((ks_rf σ).1.2 hI)) (fun r_2 σ_2 τ_2 hp_2 => ?_)
    have k_2 : KS σ σ_2 := ks_tr (ks_rf σ) hp_2.2.1
    have kj_2 : KJ τ τ_2 := kj_tr (kj_rf τ) hp_2.2.2
    refine ok_bd (s_B_X11_isIn_0 N hN σ_2 τ_2 r_2 x3 (k_2.1.2 hI)) (fun r_3 σ_3 τ_3 hp_3 => ?_)
    have k_3 : KS σ σ_3 := ks_eq k_2 hp_3.2.1
    have kj_3 : KJ τ τ_3 := kj_eq kj_2 hp_3.2.2
    refine ok_ite (fun c_2 => ?_) (fun c_2 => ?_)
    · simp only [fa_lt, fa_le, fa_eq] at c_2
      refine ok_nm (fun v_5 e_5 => ?_)
      exact ok_mono (fun _ _ _ h9 => ⟨h9.1, ks_tr k_3 h9.2.1, kj_tr kj_3 h9.2.2⟩) (hrec_35 σ_3 τ_3 x1 x2 x3 v_5 (k_3.1.2 hI) (by have : (0 : Int32).toInt = 0 := rfl; have : (1 : Int32).toInt = 1 := rfl; have : (9 : Int32).toInt = 9 := rfl; have := i32_rng r_3; have := i32_rng v_5; have := i32_rng x4; have u_v_5 : v_5.toInt = (x4).toInt + 1 := (by rw [e_5]; have q := ti_add (a := x4) (b := 1) (by rw [show (1 : Int32).toInt = 1 from rfl]; omega) (by rw [show (1 : Int32).toInt = 1 from rfl]; omega); rw [q, show (1 : Int32).toInt = 1 from rfl]); omega) (by have : (0 : Int32).toInt = 0 := rfl; have : (1 : Int32).toInt = 1 := rfl; have : (9 : Int32).toInt = 9 := rfl; have := i32_rng r_3; have := i32_rng v_5; have := i32_rng x4; have u_v_5 : v_5.toInt = (x4).toInt + 1 := (by rw [e_5]; have q := ti_add (a := x4) (b := 1) (by rw [show (1 : Int32).toInt = 1 from rfl]; omega) (by rw [show (1 : Int32).toInt = 1 from rfl]; omega); rw [q, show (1 : Int32).toInt = 1 from rfl]); omega))
    · simp only [fa_lt, fa_le, fa_eq] at c_2
      refine ok_bd (s_B_X11_minutesOf_0 N hN σ_3 τ_3 r_2 (k_3.1.2 hI)) (fun r_6 σ_6 τ_6 hp_6 => ?_)
      have k_6 : KS σ σ_6 := ks_eq k_3 hp_6.2.1
      have kj_6 : KJ τ τ_6 := kj_eq kj_3 hp_6.2.2
      refine ok_bd (s_B_X4_tell_0 N hN σ_6 τ_6 r_6.toInt64 (k_6.1.2 hI)) (fun _ σ_7 τ_7 hp_7 => ?_)
      have k_7 : KS σ σ_7 := ks_tr k_6 hp_7.2.1
      have kj_7 : KJ τ τ_7 := kj_tr kj_6 hp_7.2.2
      exact ok_r ⟨trivial, k_7, kj_7⟩
theorem s_H_X11_coins_35 (N : Nat) (hN : 4294967296 ≤ N) : ∀ (n : Nat) (σ : gI) (τ : gJ) (x1 : Int32) (x2 : Int32) (x3 : Int32) (x4 : Int32), IC σ → (0 ≤ x4.toInt) → (2147483647 - x4.toInt).toNat < n → okp (Kq σ τ (fun _ => True)) (H_X11_coins_35 N n σ τ x1 x2 x3 x4) := by
  intro n
  induction n with
  | zero => intro σ τ x1 x2 x3 x4 _ _ hm; exact absurd hm (Nat.not_lt_zero _)
  | succ n ih =>
    intro σ τ x1 x2 x3 x4 hI h0_35 hm
    exact s_C_X11_coins_35 N hN (H_X11_coins_35 N n) n ih σ τ x1 x2 x3 x4 hI h0_35 hm
set_option maxHeartbeats 2000000 in
theorem s_B_X11_coins_0 (N : Nat) (hN : 4294967296 ≤ N) (σ : gI) (τ : gJ) (x1 : Int32) (x2 : Int32) (x3 : Int32) (hI : IC σ) : okp (Kq σ τ (fun _ => True)) (B_X11_coins_0 N σ τ x1 x2 x3) := by
  unfold B_X11_coins_0
  refine ok_bd (s_B_X8_has_0 N hN σ τ x1 ((ks_rf σ).1.2 hI)) (fun r_1 σ_1 τ_1 hp_1 => ?_)
  have k_1 : KS σ σ_1 := ks_eq (ks_rf σ) hp_1.2.1
  have kj_1 : KJ τ τ_1 := kj_eq (kj_rf τ) hp_1.2.2
  refine ok_ite (fun c_1 => ?_) (fun c_1 => ?_)
  · simp only [fa_lt, fa_le, fa_eq] at c_1
    exact ok_r ⟨trivial, k_1, kj_1⟩
  · simp only [fa_lt, fa_le, fa_eq] at c_1
    refine ok_bd (s_B_X11_isLoad_0 N hN σ_1 τ_1 x2 0 (k_1.1.2 hI)) (fun r_3 σ_3 τ_3 hp_3 => ?_)
    have k_3 : KS σ σ_3 := ks_eq k_1 hp_3.2.1
    have kj_3 : KJ τ τ_3 := kj_eq kj_1 hp_3.2.2
    refine ok_ite (fun c_2 => ?_) (fun c_2 => ?_)
    · simp only [fa_lt, fa_le, fa_eq] at c_2
      exact ok_r ⟨trivial, k_3, kj_3⟩
    · simp only [fa_lt, fa_le, fa_eq] at c_2
      refine ok_bd (s_B_X8_isKitchen_0 N hN σ_3 τ_3 x3 (k_3.1.2 hI)) (fun r_5 σ_5 τ_5 hp_5 => ?_)
      have k_5 : KS σ σ_5 := ks_eq k_3 hp_5.2.1
      have kj_5 : KJ τ τ_5 := kj_eq kj_3 hp_5.2.2
      refine ok_ite (fun c_3 => ?_) (fun c_3 => ?_)
      · simp only [fa_lt, fa_le, fa_eq] at c_3
        exact ok_r ⟨trivial, k_5, kj_5⟩
      · simp only [fa_lt, fa_le, fa_eq] at c_3
        exact ok_mono (fun _ _ _ h9 => ⟨h9.1, ks_tr k_5 h9.2.1, kj_tr kj_5 h9.2.2⟩) (s_H_X11_coins_35 N hN N σ_5 τ_5 x1 x2 x3 0 (k_5.1.2 hI) (by have : (0 : Int32).toInt = 0 := rfl; have := i32_rng r_1; have := i32_rng r_3; have := i32_rng r_5; omega) (by have : (0 : Int32).toInt = 0 := rfl; have := i32_rng r_1; have := i32_rng r_3; have := i32_rng r_5; omega))
set_option maxHeartbeats 2000000 in
theorem s_B_X6_has_0 (N : Nat) (hN : 4294967296 ≤ N) (c : Nat) (tc : gx_isS c) (σ : gI) (τ : gJ) (x1 : Int32) (hI : IC σ) : okp (Kqe σ τ (fun a => a = 0 ∨ a = 1)) (B_X6_has_0 N c σ τ x1) := by
  unfold B_X6_has_0
  have hc := isS_rng tc
  refine ok_ite (fun c_1 => ?_) (fun c_1 => ?_)
  · simp only [fa_lt, fa_le, fa_eq] at c_1
    exact ok_r ⟨(Or.inl rfl), (Eq.refl σ), (Eq.refl τ)⟩
  · simp only [fa_lt, fa_le, fa_eq] at c_1
    refine ok_ite (fun c_2 => ?_) (fun c_2 => ?_)
    · simp only [fa_lt, fa_le, fa_eq] at c_2
      exact ok_r ⟨(Or.inl rfl), (Eq.refl σ), (Eq.refl τ)⟩
    · simp only [fa_lt, fa_le, fa_eq] at c_2
      exact ok_r ⟨(Or.inr rfl), (Eq.refl σ), (Eq.refl τ)⟩
set_option maxHeartbeats 2000000 in
theorem s_B_X6_isOnWay_0 (N : Nat) (hN : 4294967296 ≤ N) (c : Nat) (tc : gx_isS c) (σ : gI) (τ : gJ) (x1 : Int32) (hI : IC σ) : okp (Kqe σ τ (fun a => a = 0 ∨ a = 1)) (B_X6_isOnWay_0 N c σ τ x1) := by
  unfold B_X6_isOnWay_0
  have hc := isS_rng tc
  refine ok_ite (fun c_1 => ?_) (fun c_1 => ?_)
  · simp only [fa_lt, fa_le, fa_eq] at c_1
    exact ok_r ⟨(Or.inl rfl), (Eq.refl σ), (Eq.refl τ)⟩
  · simp only [fa_lt, fa_le, fa_eq] at c_1
    refine ok_ite (fun c_2 => ?_) (fun c_2 => ?_)
    · simp only [fa_lt, fa_le, fa_eq] at c_2
      exact ok_r ⟨(Or.inl rfl), (Eq.refl σ), (Eq.refl τ)⟩
    · simp only [fa_lt, fa_le, fa_eq] at c_2
      refine ok_ite (fun c_3 => ?_) (fun c_3 => ?_)
      · simp only [fa_lt, fa_le, fa_eq] at c_3
        exact ok_r ⟨(Or.inr rfl), (Eq.refl σ), (Eq.refl τ)⟩
      · simp only [fa_lt, fa_le, fa_eq] at c_3
        exact ok_r ⟨(Or.inl rfl), (Eq.refl σ), (Eq.refl τ)⟩
set_option maxHeartbeats 2000000 in
theorem s_C_X9_settle_10 (N : Nat) (hN : 4294967296 ≤ N) (rec_10 : gI → gJ → Int32 → Int32 → Option (Int32 × gI × gJ)) (n_10 : Nat) (hrec_10 : ∀ (σ : gI) (τ : gJ) (x2 : Int32) (x3 : Int32), IC σ → (0 ≤ x3.toInt) → (2147483647 - x3.toInt).toNat < n_10 → okp (Kq σ τ (fun _ => True)) (rec_10 σ τ x2 x3)) (σ : gI) (τ : gJ) (x2 : Int32) (x3 : Int32) (hI : IC σ) (h0_10 : 0 ≤ x3.toInt) (hm_10 : (2147483647 - x3.toInt).toNat < n_10 + 1) : okp (Kq σ τ (fun _ => True)) (C_X9_settle_10 N rec_10 σ τ x2 x3) := by
  unfold C_X9_settle_10
  refine ok_ite (fun c_1 => ?_) (fun c_1 => ?_)
  · simp only [fa_lt, fa_le, fa_eq] at c_1
    exact ok_r ⟨trivial, (ks_rf σ), (kj_rf τ)⟩
  · simp only [fa_lt, fa_le, fa_eq] at c_1
    refine ok_bd (s_B_X6_isOnWay_0 N hN 171 is_171 σ τ x2 ((ks_rf σ).1.2 hI)) (fun r_2 σ_2 τ_2 hp_2 => ?_)
    have k_2 : KS σ σ_2 := ks_eq (ks_rf σ) hp_2.2.1
    have kj_2 : KJ τ τ_2 := kj_eq (kj_rf τ) hp_2.2.2
    refine ok_ite (fun c_2 => ?_) (fun c_2 => ?_)
    · simp only [fa_lt, fa_le, fa_eq] at c_2
      exact ok_r ⟨trivial, k_2, kj_2⟩
    · simp only [fa_lt, fa_le, fa_eq] at c_2
      refine ok_bd (s_B_X1_pass_0 N hN 171 is_171 σ_2 τ_2 (k_2.1.2 hI)) (fun _ σ_4 τ_4 hp_4 => ?_)
      have k_4 : KS σ σ_4 := ks_tr k_2 hp_4.2.1
      have kj_4 : KJ τ τ_4 := kj_tr kj_2 hp_4.2.2
      refine ok_nm (fun v_5 e_5 => ?_)
      exact ok_mono (fun _ _ _ h9 => ⟨h9.1, ks_tr k_4 h9.2.1, kj_tr kj_4 h9.2.2⟩) (hrec_10 σ_4 τ_4 x2 v_5 (k_4.1.2 hI) (by have : (0 : Int32).toInt = 0 := rfl; have : (1 : Int32).toInt = 1 := rfl; have : (300 : Int32).toInt = 300 := rfl; have := i32_rng r_2; have := i32_rng v_5; have := i32_rng x3; have u_v_5 : v_5.toInt = (x3).toInt + 1 := (by rw [e_5]; have q := ti_add (a := x3) (b := 1) (by rw [show (1 : Int32).toInt = 1 from rfl]; omega) (by rw [show (1 : Int32).toInt = 1 from rfl]; omega); rw [q, show (1 : Int32).toInt = 1 from rfl]); omega) (by have : (0 : Int32).toInt = 0 := rfl; have : (1 : Int32).toInt = 1 := rfl; have : (300 : Int32).toInt = 300 := rfl; have := i32_rng r_2; have := i32_rng v_5; have := i32_rng x3; have u_v_5 : v_5.toInt = (x3).toInt + 1 := (by rw [e_5]; have q := ti_add (a := x3) (b := 1) (by rw [show (1 : Int32).toInt = 1 from rfl]; omega) (by rw [show (1 : Int32).toInt = 1 from rfl]; omega); rw [q, show (1 : Int32).toInt = 1 from rfl]); omega))
theorem s_H_X9_settle_10 (N : Nat) (hN : 4294967296 ≤ N) : ∀ (n : Nat) (σ : gI) (τ : gJ) (x2 : Int32) (x3 : Int32), IC σ → (0 ≤ x3.toInt) → (2147483647 - x3.toInt).toNat < n → okp (Kq σ τ (fun _ => True)) (H_X9_settle_10 N n σ τ x2 x3) := by
  intro n
  induction n with
  | zero => intro σ τ x2 x3 _ _ hm; exact absurd hm (Nat.not_lt_zero _)
  | succ n ih =>
    intro σ τ x2 x3 hI h0_10 hm
    exact s_C_X9_settle_10 N hN (H_X9_settle_10 N n) n ih σ τ x2 x3 hI h0_10 hm
set_option maxHeartbeats 2000000 in
theorem s_B_X9_settle_0 (N : Nat) (hN : 4294967296 ≤ N) (σ : gI) (τ : gJ) (x2 : Int32) (hI : IC σ) : okp (Kq σ τ (fun _ => True)) (B_X9_settle_0 N σ τ x2) := by
  unfold B_X9_settle_0
  refine ok_bd (s_B_X6_copy_0 N hN 171 is_171 30 is_30 σ τ ((ks_rf σ).1.2 hI)) (fun _ σ_1 τ_1 hp_1 => ?_)
  have k_1 : KS σ σ_1 := ks_tr (ks_rf σ) hp_1.2.1
  have kj_1 : KJ τ τ_1 := kj_tr (kj_rf τ) hp_1.2.2
  exact ok_mono (fun _ _ _ h9 => ⟨h9.1, ks_tr k_1 h9.2.1, kj_tr kj_1 h9.2.2⟩) (s_H_X9_settle_10 N hN N σ_1 τ_1 x2 0 (k_1.1.2 hI) (by have : (0 : Int32).toInt = 0 := rfl; omega) (by have : (0 : Int32).toInt = 0 := rfl; omega))
set_option maxHeartbeats 2000000 in
theorem s_B_X6_fateOf_0 (N : Nat) (hN : 4294967296 ≤ N) (c : Nat) (tc : gx_isS c) (σ : gI) (τ : gJ) (x1 : Int32) (hI : IC σ) : okp (Kqe σ τ (fun _ => True)) (B_X6_fateOf_0 N c σ τ x1) := by
  unfold B_X6_fateOf_0
  have hc := isS_rng tc
  refine ok_ite (fun c_1 => ?_) (fun c_1 => ?_)
  · simp only [fa_lt, fa_le, fa_eq] at c_1
    refine ok_ite (fun c_2 => ?_) (fun c_2 => ?_)
    · simp only [fa_lt, fa_le, fa_eq] at c_2
      exact ok_r ⟨trivial, (Eq.refl σ), (Eq.refl τ)⟩
    · simp only [fa_lt, fa_le, fa_eq] at c_2
      exact ok_r ⟨trivial, (Eq.refl σ), (Eq.refl τ)⟩
  · simp only [fa_lt, fa_le, fa_eq] at c_1
    exact ok_r ⟨trivial, (Eq.refl σ), (Eq.refl τ)⟩
set_option maxHeartbeats 2000000 in
theorem s_B_X6_trailOf_0 (N : Nat) (hN : 4294967296 ≤ N) (c : Nat) (tc : gx_isS c) (σ : gI) (τ : gJ) (x1 : Int32) (hI : IC σ) : okp (Kqe σ τ (fun _ => True)) (B_X6_trailOf_0 N c σ τ x1) := by
  unfold B_X6_trailOf_0
  have hc := isS_rng tc
  refine ok_ite (fun c_1 => ?_) (fun c_1 => ?_)
  · simp only [fa_lt, fa_le, fa_eq] at c_1
    exact ok_r ⟨trivial, (Eq.refl σ), (Eq.refl τ)⟩
  · simp only [fa_lt, fa_le, fa_eq] at c_1
    refine ok_ite (fun c_2 => ?_) (fun c_2 => ?_)
    · simp only [fa_lt, fa_le, fa_eq] at c_2
      exact ok_r ⟨trivial, (Eq.refl σ), (Eq.refl τ)⟩
    · simp only [fa_lt, fa_le, fa_eq] at c_2
      refine ok_ck (by have : (0 : Int32).toInt = 0 := rfl; have : (6 : Int32).toInt = 6 := rfl; have := i32_rng x1; omega) (fun j_3 hj_3 lj_3 => ?_)
      exact ok_r ⟨trivial, (Eq.refl σ), (Eq.refl τ)⟩
set_option maxHeartbeats 2000000 in
theorem s_B_X11_comes_0 (N : Nat) (hN : 4294967296 ≤ N) (σ : gI) (τ : gJ) (x1 : Int32) (hI : IC σ) : okp (Kq σ τ (fun _ => True)) (B_X11_comes_0 N σ τ x1) := by
  unfold B_X11_comes_0
  refine ok_bd (s_B_X6_has_0 N hN 30 is_30 σ τ x1 ((ks_rf σ).1.2 hI)) (fun r_1 σ_1 τ_1 hp_1 => ?_)
  have k_1 : KS σ σ_1 := ks_eq (ks_rf σ) hp_1.2.1
  have kj_1 : KJ τ τ_1 := kj_eq (kj_rf τ) hp_1.2.2
  refine ok_ite (fun c_1 => ?_) (fun c_1 => ?_)
  · simp only [fa_lt, fa_le, fa_eq] at c_1
    exact ok_r ⟨trivial, k_1, kj_1⟩
  · simp only [fa_lt, fa_le, fa_eq] at c_1
    refine ok_bd (s_B_X9_settle_0 N hN σ_1 τ_1 x1 (k_1.1.2 hI)) (fun r_3 σ_3 τ_3 hp_3 => ?_)
    have k_3 : KS σ σ_3 := ks_tr k_1 hp_3.2.1
    have kj_3 : KJ τ τ_3 := kj_tr kj_1 hp_3.2.2
    refine ok_bd (s_B_X6_fateOf_0 N hN 171 is_171 σ_3 τ_3 x1 (k_3.1.2 hI)) (fun r_4 σ_4 τ_4 hp_4 => ?_)
    have k_4 : KS σ σ_4 := ks_eq k_3 hp_4.2.1
    have kj_4 : KJ τ τ_4 := kj_eq kj_3 hp_4.2.2
    refine ok_ite (fun c_2 => ?_) (fun c_2 => ?_)
    · simp only [fa_lt, fa_le, fa_eq] at c_2
      refine ok_bd (s_B_X6_spotOf_0 N hN 171 is_171 σ_4 τ_4 x1 (k_4.1.2 hI)) (fun r_9 σ_9 τ_9 hp_9 => ?_)
      have k_9 : KS σ σ_9 := ks_eq k_4 hp_9.2.1
      have kj_9 : KJ τ τ_9 := kj_eq kj_4 hp_9.2.2
      refine ok_bd (s_B_X6_trailOf_0 N hN 171 is_171 σ_9 τ_9 x1 (k_9.1.2 hI)) (fun r_10 σ_10 τ_10 hp_10 => ?_)
      have k_10 : KS σ σ_10 := ks_eq k_9 hp_10.2.1
      have kj_10 : KJ τ τ_10 := kj_eq kj_9 hp_10.2.2
      refine ok_bd (s_B_X4_tell__0 N hN σ_10 τ_10 r_9.toInt64 r_10.toInt64 (k_10.1.2 hI)) (fun _ σ_11 τ_11 hp_11 => ?_)
      have k_11 : KS σ σ_11 := ks_tr k_10 hp_11.2.1
      have kj_11 : KJ τ τ_11 := kj_tr kj_10 hp_11.2.2
      exact ok_r ⟨trivial, k_11, kj_11⟩
    · simp only [fa_lt, fa_le, fa_eq] at c_2
      refine ok_bd (s_B_X6_spotOf_0 N hN 171 is_171 σ_4 τ_4 x1 (k_4.1.2 hI)) (fun r_6 σ_6 τ_6 hp_6 => ?_)
      have k_6 : KS σ σ_6 := ks_eq k_4 hp_6.2.1
      have kj_6 : KJ τ τ_6 := kj_eq kj_4 hp_6.2.2
      refine ok_bd (s_B_X4_tell_0 N hN σ_6 τ_6 r_6.toInt64 (k_6.1.2 hI)) (fun _ σ_7 τ_7 hp_7 => ?_)
      have k_7 : KS σ σ_7 := ks_tr k_6 hp_7.2.1
      have kj_7 : KJ τ τ_7 := kj_tr kj_6 hp_7.2.2
      refine ok_ite (fun c_3 => ?_) (fun c_3 => ?_)
      · simp only [fa_lt, fa_le, fa_eq] at c_3
        exact ok_r ⟨trivial, k_7, kj_7⟩
      · simp only [fa_lt, fa_le, fa_eq] at c_3
        exact ok_r ⟨trivial, k_7, kj_7⟩
set_option maxHeartbeats 2000000 in
theorem s_C_X11_commonDivisor_7 (N : Nat) (hN : 4294967296 ≤ N) (rec_7 : gI → gJ → Int32 → Int32 → Int32 → Option (Int32 × gI × gJ)) (n_7 : Nat) (hrec_7 : ∀ (σ : gI) (τ : gJ) (x2 : Int32) (x3 : Int32) (x4 : Int32), IC σ → (0 ≤ x4.toInt) → (2147483647 - x4.toInt).toNat < n_7 → okp (Kqe σ τ (fun a => 1 ≤ a.toInt)) (rec_7 σ τ x2 x3 x4)) (σ : gI) (τ : gJ) (x2 : Int32) (x3 : Int32) (x4 : Int32) (hI : IC σ) (h0_7 : 0 ≤ x4.toInt) (hm_7 : (2147483647 - x4.toInt).toNat < n_7 + 1) : okp (Kqe σ τ (fun a => 1 ≤ a.toInt)) (C_X11_commonDivisor_7 N rec_7 σ τ x2 x3 x4) := by
  unfold C_X11_commonDivisor_7
  refine ok_ite (fun c_1 => ?_) (fun c_1 => ?_)
  · simp only [fa_lt, fa_le, fa_eq] at c_1
    exact ok_r ⟨(by have : (1 : Int32).toInt = 1 := rfl; have : (100 : Int32).toInt = 100 := rfl; have := imax_c 1 x2; have := i32_rng x2; have := i32_rng x4; omega), (Eq.refl σ), (Eq.refl τ)⟩
  · simp only [fa_lt, fa_le, fa_eq] at c_1
    refine ok_ite (fun c_2 => ?_) (fun c_2 => ?_)
    · simp only [fa_lt, fa_le, fa_eq] at c_2
      exact ok_r ⟨(by have : (0 : Int32).toInt = 0 := rfl; have : (1 : Int32).toInt = 1 := rfl; have : (100 : Int32).toInt = 100 := rfl; have := imax_c 1 x2; have := i32_rng x2; have := i32_rng x3; have := i32_rng x4; omega), (Eq.refl σ), (Eq.refl τ)⟩
    · simp only [fa_lt, fa_le, fa_eq] at c_2
      refine ok_dz (fun h9 => by have h8 := (fa_eq _ _).mp h9; rw [show (0 : Int32).toInt = 0 from rfl] at h8; exact absurd h8 (by have : (0 : Int32).toInt = 0 := rfl; have : (100 : Int32).toInt = 100 := rfl; have := i32_rng x3; have := i32_rng x4; omega)) ?_
      refine ok_nm (fun v_4 e_4 => ?_)
      refine ok_nm (fun v_5 e_5 => ?_)
      exact ok_mono (fun _ _ _ h9 => ⟨h9.1, h9.2.1.trans (Eq.refl σ), h9.2.2.trans (Eq.refl τ)⟩) (hrec_7 σ τ x3 v_4 v_5 ((ic_eq (Eq.refl σ)) hI) (by have : (0 : Int32).toInt = 0 := rfl; have : (1 : Int32).toInt = 1 := rfl; have : (100 : Int32).toInt = 100 := rfl; have := i32_rng v_5; have := i32_rng x3; have := i32_rng x4; have u_v_5 : v_5.toInt = (x4).toInt + 1 := (by rw [e_5]; have q := ti_add (a := x4) (b := 1) (by rw [show (1 : Int32).toInt = 1 from rfl]; omega) (by rw [show (1 : Int32).toInt = 1 from rfl]; omega); rw [q, show (1 : Int32).toInt = 1 from rfl]); omega) (by have : (0 : Int32).toInt = 0 := rfl; have : (1 : Int32).toInt = 1 := rfl; have : (100 : Int32).toInt = 100 := rfl; have := i32_rng v_5; have := i32_rng x3; have := i32_rng x4; have u_v_5 : v_5.toInt = (x4).toInt + 1 := (by rw [e_5]; have q := ti_add (a := x4) (b := 1) (by rw [show (1 : Int32).toInt = 1 from rfl]; omega) (by rw [show (1 : Int32).toInt = 1 from rfl]; omega); rw [q, show (1 : Int32).toInt = 1 from rfl]); omega))
theorem s_H_X11_commonDivisor_7 (N : Nat) (hN : 4294967296 ≤ N) : ∀ (n : Nat) (σ : gI) (τ : gJ) (x2 : Int32) (x3 : Int32) (x4 : Int32), IC σ → (0 ≤ x4.toInt) → (2147483647 - x4.toInt).toNat < n → okp (Kqe σ τ (fun a => 1 ≤ a.toInt)) (H_X11_commonDivisor_7 N n σ τ x2 x3 x4) := by
  intro n
  induction n with
  | zero => intro σ τ x2 x3 x4 _ _ hm; exact absurd hm (Nat.not_lt_zero _)
  | succ n ih =>
    intro σ τ x2 x3 x4 hI h0_7 hm
    exact s_C_X11_commonDivisor_7 N hN (H_X11_commonDivisor_7 N n) n ih σ τ x2 x3 x4 hI h0_7 hm
set_option maxHeartbeats 2000000 in
theorem s_B_X11_commonDivisor_0 (N : Nat) (hN : 4294967296 ≤ N) (σ : gI) (τ : gJ) (x0 : Int32) (x1 : Int32) (hI : IC σ) : okp (Kqe σ τ (fun a => 1 ≤ a.toInt)) (B_X11_commonDivisor_0 N σ τ x0 x1) := by
  unfold B_X11_commonDivisor_0
  exact ok_mono (fun _ _ _ h9 => ⟨h9.1, h9.2.1.trans (Eq.refl σ), h9.2.2.trans (Eq.refl τ)⟩) (s_H_X11_commonDivisor_7 N hN N σ τ x0 x1 0 ((ic_eq (Eq.refl σ)) hI) (by have : (0 : Int32).toInt = 0 := rfl; omega) (by have : (0 : Int32).toInt = 0 := rfl; omega))
set_option maxHeartbeats 2000000 in
theorem s_B_X11_isCorkMinute_0 (N : Nat) (hN : 4294967296 ≤ N) (σ : gI) (τ : gJ) (x0 : Int32) (hI : IC σ) : okp (Kqe σ τ (fun a => a = 0 ∨ a = 1)) (B_X11_isCorkMinute_0 N σ τ x0) := by
  unfold B_X11_isCorkMinute_0
  refine ok_ite (fun c_1 => ?_) (fun c_1 => ?_)
  · simp only [fa_lt, fa_le, fa_eq] at c_1
    exact ok_r ⟨(Or.inl rfl), (Eq.refl σ), (Eq.refl τ)⟩
  · simp only [fa_lt, fa_le, fa_eq] at c_1
    refine ok_ite (fun c_2 => ?_) (fun c_2 => ?_)
    · simp only [fa_lt, fa_le, fa_eq] at c_2
      exact ok_r ⟨(Or.inl rfl), (Eq.refl σ), (Eq.refl τ)⟩
    · simp only [fa_lt, fa_le, fa_eq] at c_2
      exact ok_r ⟨(Or.inr rfl), (Eq.refl σ), (Eq.refl τ)⟩
set_option maxHeartbeats 2000000 in
theorem s_B_X11_cork_21 (N : Nat) (hN : 4294967296 ≤ N) (σ : gI) (τ : gJ) (x1 : Int32) (x2 : Int32) (x3 : Int32) (y0 : Int32) (hI : IC σ) : okp (Uq σ τ (fun _ => True)) (B_X11_cork_21 N σ τ x1 x2 x3 y0) := by
  unfold B_X11_cork_21
  refine ok_bd (s_B_X8_has_0 N hN σ τ x1 ((us_rf σ).1.2 hI)) (fun r_1 σ_1 τ_1 hp_1 => ?_)
  have k_1 : US σ σ_1 := us_eq (us_rf σ) hp_1.2.1
  have kj_1 : KJ τ τ_1 := kj_eq (kj_rf τ) hp_1.2.2
  refine ok_ite (fun c_1 => ?_) (fun c_1 => ?_)
  · simp only [fa_lt, fa_le, fa_eq] at c_1
    exact ok_r ⟨trivial, k_1, kj_1⟩
  · simp only [fa_lt, fa_le, fa_eq] at c_1
    refine ok_bd (s_B_X11_isCorkMinute_0 N hN σ_1 τ_1 x2 (k_1.1.2 hI)) (fun r_3 σ_3 τ_3 hp_3 => ?_)
    have k_3 : US σ σ_3 := us_eq k_1 hp_3.2.1
    have kj_3 : KJ τ τ_3 := kj_eq kj_1 hp_3.2.2
    refine ok_ite (fun c_2 => ?_) (fun c_2 => ?_)
    · simp only [fa_lt, fa_le, fa_eq] at c_2
      exact ok_r ⟨trivial, k_3, kj_3⟩
    · simp only [fa_lt, fa_le, fa_eq] at c_2
      refine ok_ite (fun c_3 => ?_) (fun c_3 => ?_)
      · simp only [fa_lt, fa_le, fa_eq] at c_3
        exact ok_r ⟨trivial, k_3, kj_3⟩
      · simp only [fa_lt, fa_le, fa_eq] at c_3
        refine ok_bd (s_B_X0_add_0 N hN σ_3 τ_3 x1 x2 x3 (k_3.1.2 hI)) (fun r_6 σ_6 τ_6 hp_6 => ?_)
        have k_6 : US σ σ_6 := us_tr k_3 hp_6.2.1
        have kj_6 : KJ τ τ_6 := kj_tr kj_3 hp_6.2.2
        refine ok_ite (fun c_4 => ?_) (fun c_4 => ?_)
        · simp only [fa_lt, fa_le, fa_eq] at c_4
          exact ok_r ⟨trivial, k_6, kj_6⟩
        · simp only [fa_lt, fa_le, fa_eq] at c_4
          exact ok_r ⟨trivial, k_6, kj_6⟩
set_option maxHeartbeats 2000000 in
theorem s_B_X11_cork_0 (N : Nat) (hN : 4294967296 ≤ N) (σ : gI) (τ : gJ) (x1 : Int32) (x2 : Int32) (x3 : Int32) (hI : IC σ) : okp (Uq σ τ (fun _ => True)) (B_X11_cork_0 N σ τ x1 x2 x3) := by
  unfold B_X11_cork_0
  refine ok_ite (fun c_1 => ?_) (fun c_1 => ?_)
  · simp only [fa_lt, fa_le, fa_eq] at c_1
    exact ok_mono (fun _ _ _ h9 => ⟨h9.1, us_tr (us_rf σ) h9.2.1, kj_tr (kj_rf τ) h9.2.2⟩) (s_B_X11_cork_21 N hN σ τ x1 x2 x3 1 ((us_rf σ).1.2 hI))
  · simp only [fa_lt, fa_le, fa_eq] at c_1
    refine ok_bd (s_B_X8_isKitchen_0 N hN σ τ x3 ((us_rf σ).1.2 hI)) (fun r_2 σ_2 τ_2 hp_2 => ?_)
    have k_2 : US σ σ_2 := us_eq (us_rf σ) hp_2.2.1
    have kj_2 : KJ τ τ_2 := kj_eq (kj_rf τ) hp_2.2.2
    refine ok_ite (fun c_2 => ?_) (fun c_2 => ?_)
    · simp only [fa_lt, fa_le, fa_eq] at c_2
      exact ok_mono (fun _ _ _ h9 => ⟨h9.1, us_tr k_2 h9.2.1, kj_tr kj_2 h9.2.2⟩) (s_B_X11_cork_21 N hN σ_2 τ_2 x1 x2 x3 0 (k_2.1.2 hI))
    · simp only [fa_lt, fa_le, fa_eq] at c_2
      exact ok_mono (fun _ _ _ h9 => ⟨h9.1, us_tr k_2 h9.2.1, kj_tr kj_2 h9.2.2⟩) (s_B_X11_cork_21 N hN σ_2 τ_2 x1 x2 x3 1 (k_2.1.2 hI))
set_option maxHeartbeats 2000000 in
theorem s_B_X6_onWay_0 (N : Nat) (hN : 4294967296 ≤ N) (c : Nat) (tc : gx_isS c) (σ : gI) (τ : gJ) (hI : IC σ) : okp (Kqe σ τ (fun _ => True)) (B_X6_onWay_0 N c σ τ) := by
  unfold B_X6_onWay_0
  have hc := isS_rng tc
  exact ok_r ⟨trivial, (Eq.refl σ), (Eq.refl τ)⟩
set_option maxHeartbeats 2000000 in
theorem s_B_X11_count_0 (N : Nat) (hN : 4294967296 ≤ N) (σ : gI) (τ : gJ) (x1 : Int32) (hI : IC σ) : okp (Kqe σ τ (fun _ => True)) (B_X11_count_0 N σ τ x1) := by
  unfold B_X11_count_0
  refine ok_ite (fun c_1 => ?_) (fun c_1 => ?_)
  · simp only [fa_lt, fa_le, fa_eq] at c_1
    exact ok_r ⟨trivial, (Eq.refl σ), (Eq.refl τ)⟩
  · simp only [fa_lt, fa_le, fa_eq] at c_1
    refine ok_ite (fun c_2 => ?_) (fun c_2 => ?_)
    · simp only [fa_lt, fa_le, fa_eq] at c_2
      exact ok_r ⟨trivial, (Eq.refl σ), (Eq.refl τ)⟩
    · simp only [fa_lt, fa_le, fa_eq] at c_2
      refine ok_ite (fun c_3 => ?_) (fun c_3 => ?_)
      · simp only [fa_lt, fa_le, fa_eq] at c_3
        exact ok_r ⟨trivial, (Eq.refl σ), (Eq.refl τ)⟩
      · simp only [fa_lt, fa_le, fa_eq] at c_3
        refine ok_ite (fun c_4 => ?_) (fun c_4 => ?_)
        · simp only [fa_lt, fa_le, fa_eq] at c_4
          exact ok_r ⟨trivial, (Eq.refl σ), (Eq.refl τ)⟩
        · simp only [fa_lt, fa_le, fa_eq] at c_4
          refine ok_ite (fun c_5 => ?_) (fun c_5 => ?_)
          · simp only [fa_lt, fa_le, fa_eq] at c_5
            exact ok_r ⟨trivial, (Eq.refl σ), (Eq.refl τ)⟩
          · simp only [fa_lt, fa_le, fa_eq] at c_5
            refine ok_ite (fun c_6 => ?_) (fun c_6 => ?_)
            · simp only [fa_lt, fa_le, fa_eq] at c_6
              refine ok_bd (s_B_X6_onWay_0 N hN 30 is_30 σ τ ((ic_eq (Eq.refl σ)) hI)) (fun r_7 σ_7 τ_7 hp_7 => ?_)
              have k_7 : σ_7 = σ := hp_7.2.1.trans (Eq.refl σ)
              have kj_7 : τ_7 = τ := hp_7.2.2.trans (Eq.refl τ)
              exact ok_r ⟨trivial, k_7, kj_7⟩
            · simp only [fa_lt, fa_le, fa_eq] at c_6
              refine ok_ite (fun c_7 => ?_) (fun c_7 => ?_)
              · simp only [fa_lt, fa_le, fa_eq] at c_7
                exact ok_r ⟨trivial, (Eq.refl σ), (Eq.refl τ)⟩
              · simp only [fa_lt, fa_le, fa_eq] at c_7
                refine ok_ite (fun c_8 => ?_) (fun c_8 => ?_)
                · simp only [fa_lt, fa_le, fa_eq] at c_8
                  exact ok_r ⟨trivial, (Eq.refl σ), (Eq.refl τ)⟩
                · simp only [fa_lt, fa_le, fa_eq] at c_8
                  refine ok_ite (fun c_9 => ?_) (fun c_9 => ?_)
                  · simp only [fa_lt, fa_le, fa_eq] at c_9
                    exact ok_r ⟨trivial, (Eq.refl σ), (Eq.refl τ)⟩
                  · simp only [fa_lt, fa_le, fa_eq] at c_9
                    refine ok_ite (fun c_10 => ?_) (fun c_10 => ?_)
                    · simp only [fa_lt, fa_le, fa_eq] at c_10
                      exact ok_r ⟨trivial, (Eq.refl σ), (Eq.refl τ)⟩
                    · simp only [fa_lt, fa_le, fa_eq] at c_10
                      refine ok_ite (fun c_11 => ?_) (fun c_11 => ?_)
                      · simp only [fa_lt, fa_le, fa_eq] at c_11
                        exact ok_r ⟨trivial, (Eq.refl σ), (Eq.refl τ)⟩
                      · simp only [fa_lt, fa_le, fa_eq] at c_11
                        refine ok_ite (fun c_12 => ?_) (fun c_12 => ?_)
                        · simp only [fa_lt, fa_le, fa_eq] at c_12
                          exact ok_r ⟨trivial, (Eq.refl σ), (Eq.refl τ)⟩
                        · simp only [fa_lt, fa_le, fa_eq] at c_12
                          exact ok_r ⟨trivial, (Eq.refl σ), (Eq.refl τ)⟩
set_option maxHeartbeats 2000000 in
theorem s_B_J0_isLatin1_aae02_0 (N : Nat) (hN : 4294967296 ≤ N) (bs : List Int32) (hbs : bs.length < 2147483648) (σ : gI) (τ : gJ) (hI : IC σ) : okp (Kqe σ τ (fun a => a.toInt = 1)) (B_J0_isLatin1_aae02_0 N bs σ τ) := by
  unfold B_J0_isLatin1_aae02_0
  exact ok_r ⟨(by have : (1 : Int32).toInt = 1 := rfl; omega), (Eq.refl σ), (Eq.refl τ)⟩
set_option maxHeartbeats 2000000 in
theorem s_B_J0_coder_7d493_0 (N : Nat) (hN : 4294967296 ≤ N) (bs : List Int32) (hbs : bs.length < 2147483648) (σ : gI) (τ : gJ) (hI : IC σ) : okp (Kqe σ τ (fun _ => True)) (B_J0_coder_7d493_0 N bs σ τ) := by
  unfold B_J0_coder_7d493_0
  exact ok_r ⟨trivial, (Eq.refl σ), (Eq.refl τ)⟩
set_option maxHeartbeats 2000000 in
theorem s_B_J0_length_8abf5_0 (N : Nat) (hN : 4294967296 ≤ N) (bs : List Int32) (hbs : bs.length < 2147483648) (σ : gI) (τ : gJ) (hI : IC σ) : okp (Kqe σ τ (fun _ => True)) (B_J0_length_8abf5_0 N bs σ τ) := by
  unfold B_J0_length_8abf5_0
  refine ok_bd (s_B_J0_coder_7d493_0 N hN bs hbs σ τ ((ic_eq (Eq.refl σ)) hI)) (fun r_1 σ_1 τ_1 hp_1 => ?_)
  have k_1 : σ_1 = σ := hp_1.2.1.trans (Eq.refl σ)
  have kj_1 : τ_1 = τ := hp_1.2.2.trans (Eq.refl τ)
  exact ok_r ⟨trivial, k_1, kj_1⟩
set_option maxHeartbeats 2000000 in
theorem s_B_J1_canEncode_9a6ad_0 (N : Nat) (hN : 4294967296 ≤ N) (σ : gI) (τ : gJ) (x0 : Int32) (hI : IC σ) : okp (Kqe σ τ (fun a => a = 0 ∨ a = 1)) (B_J1_canEncode_9a6ad_0 N σ τ x0) := by
  unfold B_J1_canEncode_9a6ad_0
  refine ok_ite (fun c_1 => ?_) (fun c_1 => ?_)
  · simp only [fa_lt, fa_le, fa_eq] at c_1
    exact ok_r ⟨(Or.inl rfl), (Eq.refl σ), (Eq.refl τ)⟩
  · simp only [fa_lt, fa_le, fa_eq] at c_1
    refine ok_ite (fun c_2 => ?_) (fun c_2 => ?_)
    · simp only [fa_lt, fa_le, fa_eq] at c_2
      exact ok_r ⟨(Or.inl rfl), (Eq.refl σ), (Eq.refl τ)⟩
    · simp only [fa_lt, fa_le, fa_eq] at c_2
      exact ok_r ⟨(Or.inr rfl), (Eq.refl σ), (Eq.refl τ)⟩
set_option maxHeartbeats 2000000 in
theorem s_C_J1_indexOfChar_4cfef_7 (N : Nat) (hN : 4294967296 ≤ N) (bs : List Int32) (hbs : bs.length < 2147483648) (rec_7 : gI → gJ → Int32 → Int32 → Int32 → Option (Int32 × gI × gJ)) (n_7 : Nat) (hrec_7 : ∀ (σ : gI) (τ : gJ) (x3 : Int32) (x4 : Int32) (x5 : Int32), IC σ → (0 ≤ x5.toInt) → (0 ≤ x5.toInt) → (x3.toInt ≤ bs.length) → (2147483647 - x5.toInt).toNat < n_7 → okp (Kqe σ τ (fun _ => True)) (rec_7 σ τ x3 x4 x5)) (σ : gI) (τ : gJ) (x3 : Int32) (x4 : Int32) (x5 : Int32) (hI : IC σ) (h0_7 : 0 ≤ x5.toInt) (hm_7 : (2147483647 - x5.toInt).toNat < n_7 + 1) (h5 : 0 ≤ x5.toInt) (h3 : x3.toInt ≤ bs.length) : okp (Kqe σ τ (fun _ => True)) (C_J1_indexOfChar_4cfef_7 N bs rec_7 σ τ x3 x4 x5) := by
  unfold C_J1_indexOfChar_4cfef_7
  refine ok_ite (fun c_1 => ?_) (fun c_1 => ?_)
  · simp only [fa_lt, fa_le, fa_eq] at c_1
    exact ok_r ⟨trivial, (Eq.refl σ), (Eq.refl τ)⟩
  · simp only [fa_lt, fa_le, fa_eq] at c_1
    refine ok_ck (by have : (0 : Int32).toInt = 0 := rfl; have := i32_rng x3; have := i32_rng x5; omega) (fun j_2 hj_2 lj_2 => ?_)
    refine ok_ite (fun c_2 => ?_) (fun c_2 => ?_)
    · simp only [fa_lt, fa_le, fa_eq] at c_2
      exact ok_r ⟨trivial, (Eq.refl σ), (Eq.refl τ)⟩
    · simp only [fa_lt, fa_le, fa_eq] at c_2
      refine ok_nm (fun v_4 e_4 => ?_)
      exact ok_mono (fun _ _ _ h9 => ⟨h9.1, h9.2.1.trans (Eq.refl σ), h9.2.2.trans (Eq.refl τ)⟩) (hrec_7 σ τ x3 x4 v_4 ((ic_eq (Eq.refl σ)) hI) (by have : (0 : Int32).toInt = 0 := rfl; have : (1 : Int32).toInt = 1 := rfl; have := i32_rng v_4; have := i32_rng x3; have := i32_rng x4; have := i32_rng x5; have u_v_4 : v_4.toInt = (x5).toInt + 1 := (by rw [e_4]; have q := ti_add (a := x5) (b := 1) (by rw [show (1 : Int32).toInt = 1 from rfl]; omega) (by rw [show (1 : Int32).toInt = 1 from rfl]; omega); rw [q, show (1 : Int32).toInt = 1 from rfl]); omega) (by have : (0 : Int32).toInt = 0 := rfl; have : (1 : Int32).toInt = 1 := rfl; have := i32_rng v_4; have := i32_rng x3; have := i32_rng x4; have := i32_rng x5; have u_v_4 : v_4.toInt = (x5).toInt + 1 := (by rw [e_4]; have q := ti_add (a := x5) (b := 1) (by rw [show (1 : Int32).toInt = 1 from rfl]; omega) (by rw [show (1 : Int32).toInt = 1 from rfl]; omega); rw [q, show (1 : Int32).toInt = 1 from rfl]); omega) (by have : (0 : Int32).toInt = 0 := rfl; have := i32_rng x3; have := i32_rng x4; have := i32_rng x5; omega) (by have : (0 : Int32).toInt = 0 := rfl; have : (1 : Int32).toInt = 1 := rfl; have := i32_rng v_4; have := i32_rng x3; have := i32_rng x4; have := i32_rng x5; have u_v_4 : v_4.toInt = (x5).toInt + 1 := (by rw [e_4]; have q := ti_add (a := x5) (b := 1) (by rw [show (1 : Int32).toInt = 1 from rfl]; omega) (by rw [show (1 : Int32).toInt = 1 from rfl]; omega); rw [q, show (1 : Int32).toInt = 1 from rfl]); omega))
theorem s_H_J1_indexOfChar_4cfef_7 (N : Nat) (hN : 4294967296 ≤ N) (bs : List Int32) (hbs : bs.length < 2147483648) : ∀ (n : Nat) (σ : gI) (τ : gJ) (x3 : Int32) (x4 : Int32) (x5 : Int32), IC σ → (0 ≤ x5.toInt) → (0 ≤ x5.toInt) → (x3.toInt ≤ bs.length) → (2147483647 - x5.toInt).toNat < n → okp (Kqe σ τ (fun _ => True)) (H_J1_indexOfChar_4cfef_7 N bs n σ τ x3 x4 x5) := by
  intro n
  induction n with
  | zero => intro σ τ x3 x4 x5 _ _ _ _ hm; exact absurd hm (Nat.not_lt_zero _)
  | succ n ih =>
    intro σ τ x3 x4 x5 hI h0_7 h5 h3 hm
    exact s_C_J1_indexOfChar_4cfef_7 N hN bs hbs (H_J1_indexOfChar_4cfef_7 N bs n) n ih σ τ x3 x4 x5 hI h0_7 hm h5 h3
set_option maxHeartbeats 2000000 in
theorem s_B_J1_indexOfChar_4cfef_0 (N : Nat) (hN : 4294967296 ≤ N) (bs : List Int32) (hbs : bs.length < 2147483648) (σ : gI) (τ : gJ) (x1 : Int32) (x2 : Int32) (x3 : Int32) (hI : IC σ) (h2 : 0 ≤ x2.toInt) (h3 : x3.toInt ≤ bs.length) : okp (Kqe σ τ (fun _ => True)) (B_J1_indexOfChar_4cfef_0 N bs σ τ x1 x2 x3) := by
  unfold B_J1_indexOfChar_4cfef_0
  refine ok_nm (fun v_1 e_1 => ?_)
  exact ok_mono (fun _ _ _ h9 => ⟨h9.1, h9.2.1.trans (Eq.refl σ), h9.2.2.trans (Eq.refl τ)⟩) (s_H_J1_indexOfChar_4cfef_7 N hN bs hbs N σ τ x3 v_1 x2 ((ic_eq (Eq.refl σ)) hI) (by have : (0 : Int32).toInt = 0 := rfl; have := i32_rng x2; have := i32_rng x3; omega) (by have : (0 : Int32).toInt = 0 := rfl; have := i32_rng x2; have := i32_rng x3; omega) (by have := i32_rng x2; have := i32_rng x3; omega) (by have := i32_rng x2; have := i32_rng x3; omega))
set_option maxHeartbeats 2000000 in
theorem s_B_J1_indexOf_4cfef_0 (N : Nat) (hN : 4294967296 ≤ N) (bs : List Int32) (hbs : bs.length < 2147483648) (σ : gI) (τ : gJ) (x1 : Int32) (x2 : Int32) (x3 : Int32) (hI : IC σ) : okp (Kqe σ τ (fun _ => True)) (B_J1_indexOf_4cfef_0 N bs σ τ x1 x2 x3) := by
  unfold B_J1_indexOf_4cfef_0
  refine ok_bd (s_B_J1_canEncode_9a6ad_0 N hN σ τ x1 ((ic_eq (Eq.refl σ)) hI)) (fun r_1 σ_1 τ_1 hp_1 => ?_)
  have k_1 : σ_1 = σ := hp_1.2.1.trans (Eq.refl σ)
  have kj_1 : τ_1 = τ := hp_1.2.2.trans (Eq.refl τ)
  refine ok_ite (fun c_1 => ?_) (fun c_1 => ?_)
  · simp only [fa_lt, fa_le, fa_eq] at c_1
    exact ok_r ⟨trivial, k_1, kj_1⟩
  · simp only [fa_lt, fa_le, fa_eq] at c_1
    refine ok_nm (fun v_3 e_3 => ?_)
    refine ok_nm (fun v_4 e_4 => ?_)
    refine ok_ite (fun c_2 => ?_) (fun c_2 => ?_)
    · simp only [fa_lt, fa_le, fa_eq] at c_2
      refine ok_bd (s_B_J1_indexOfChar_4cfef_0 N hN bs hbs σ_1 τ_1 x1 v_3 v_4 ((ic_eq k_1) hI) (by have : (0 : Int32).toInt = 0 := rfl; have := imax_c x2 0; have := imin_c x3 (Int32.ofNat bs.length); have := ofn_ti hbs; have := i32_rng r_1; have := i32_rng v_3; have := i32_rng v_4; have := i32_rng x2; have := i32_rng x3; have u_v_4 : v_4.toInt = (imin x3 (Int32.ofNat bs.length)).toInt := (by rw [e_4]); have u_v_3 : v_3.toInt = (imax x2 0).toInt := (by rw [e_3]); omega) (by have : (0 : Int32).toInt = 0 := rfl; have := imax_c x2 0; have := imin_c x3 (Int32.ofNat bs.length); have := ofn_ti hbs; have := i32_rng r_1; have := i32_rng v_3; have := i32_rng v_4; have := i32_rng x2; have := i32_rng x3; have u_v_4 : v_4.toInt = (imin x3 (Int32.ofNat bs.length)).toInt := (by rw [e_4]); have u_v_3 : v_3.toInt = (imax x2 0).toInt := (by rw [e_3]); omega)) (fun r_6 σ_6 τ_6 hp_6 => ?_)
      have k_6 : σ_6 = σ := hp_6.2.1.trans k_1
      have kj_6 : τ_6 = τ := hp_6.2.2.trans kj_1
      exact ok_r ⟨trivial, k_6, kj_6⟩
    · simp only [fa_lt, fa_le, fa_eq] at c_2
      exact ok_r ⟨trivial, k_1, kj_1⟩
set_option maxHeartbeats 2000000 in
theorem s_B_J0_indexOf_7cf53_0 (N : Nat) (hN : 4294967296 ≤ N) (bs : List Int32) (hbs : bs.length < 2147483648) (σ : gI) (τ : gJ) (x1 : Int32) (x2 : Int32) (hI : IC σ) : okp (Kqe σ τ (fun _ => True)) (B_J0_indexOf_7cf53_0 N bs σ τ x1 x2) := by
  unfold B_J0_indexOf_7cf53_0
  refine ok_bd (s_B_J0_isLatin1_aae02_0 N hN bs hbs σ τ ((ic_eq (Eq.refl σ)) hI)) (fun r_1 σ_1 τ_1 hp_1 => ?_)
  have k_1 : σ_1 = σ := hp_1.2.1.trans (Eq.refl σ)
  have kj_1 : τ_1 = τ := hp_1.2.2.trans (Eq.refl τ)
  have hb_1 :  r_1.toInt = 1 := hp_1.1
  refine ok_ite (fun c_1 => ?_) (fun c_1 => ?_)
  · simp only [fa_lt, fa_le, fa_eq] at c_1
    refine ok_bd (s_B_J0_length_8abf5_0 N hN bs hbs σ_1 τ_1 ((ic_eq k_1) hI)) (fun r_3 σ_3 τ_3 hp_3 => ?_)
    have k_3 : σ_3 = σ := hp_3.2.1.trans k_1
    have kj_3 : τ_3 = τ := hp_3.2.2.trans kj_1
    exfalso; exact (by have : (0 : Int32).toInt = 0 := rfl; have := i32_rng r_1; omega)
  · simp only [fa_lt, fa_le, fa_eq] at c_1
    refine ok_bd (s_B_J0_length_8abf5_0 N hN bs hbs σ_1 τ_1 ((ic_eq k_1) hI)) (fun r_4 σ_4 τ_4 hp_4 => ?_)
    have k_4 : σ_4 = σ := hp_4.2.1.trans k_1
    have kj_4 : τ_4 = τ := hp_4.2.2.trans kj_1
    refine ok_bd (s_B_J1_indexOf_4cfef_0 N hN bs hbs σ_4 τ_4 x1 x2 r_4 ((ic_eq k_4) hI)) (fun r_5 σ_5 τ_5 hp_5 => ?_)
    have k_5 : σ_5 = σ := hp_5.2.1.trans k_4
    have kj_5 : τ_5 = τ := hp_5.2.2.trans kj_4
    exact ok_r ⟨trivial, k_5, kj_5⟩
set_option maxHeartbeats 2000000 in
theorem s_B_J0_indexOf_0f7a4_0 (N : Nat) (hN : 4294967296 ≤ N) (bs : List Int32) (hbs : bs.length < 2147483648) (σ : gI) (τ : gJ) (x1 : Int32) (hI : IC σ) : okp (Kqe σ τ (fun _ => True)) (B_J0_indexOf_0f7a4_0 N bs σ τ x1) := by
  unfold B_J0_indexOf_0f7a4_0
  refine ok_bd (s_B_J0_indexOf_7cf53_0 N hN bs hbs σ τ x1 0 ((ic_eq (Eq.refl σ)) hI)) (fun r_1 σ_1 τ_1 hp_1 => ?_)
  have k_1 : σ_1 = σ := hp_1.2.1.trans (Eq.refl σ)
  have kj_1 : τ_1 = τ := hp_1.2.2.trans (Eq.refl τ)
  exact ok_r ⟨trivial, k_1, kj_1⟩
set_option maxHeartbeats 2000000 in
theorem s_B_X7_oneOf_0 (N : Nat) (hN : 4294967296 ≤ N) (bs : List Int32) (hbs : bs.length < 2147483648) (σ : gI) (τ : gJ) (x2 : Int32) (hI : IC σ) : okp (Kqe σ τ (fun _ => True)) (B_X7_oneOf_0 N bs σ τ x2) := by
  unfold B_X7_oneOf_0
  refine ok_bd (s_B_X7_look_0 N hN σ τ x2 ((ic_eq (Eq.refl σ)) hI)) (fun r_1 σ_1 τ_1 hp_1 => ?_)
  have k_1 : σ_1 = σ := hp_1.2.1.trans (Eq.refl σ)
  have kj_1 : τ_1 = τ := hp_1.2.2.trans (Eq.refl τ)
  refine ok_ite (fun c_1 => ?_) (fun c_1 => ?_)
  · simp only [fa_lt, fa_le, fa_eq] at c_1
    refine ok_bd (s_B_J0_indexOf_0f7a4_0 N hN bs hbs σ_1 τ_1 ((r_1.toUInt32 % 65536).toInt32) ((ic_eq k_1) hI)) (fun r_3 σ_3 τ_3 hp_3 => ?_)
    have k_3 : σ_3 = σ := hp_3.2.1.trans k_1
    have kj_3 : τ_3 = τ := hp_3.2.2.trans kj_1
    exact ok_r ⟨trivial, k_3, kj_3⟩
  · simp only [fa_lt, fa_le, fa_eq] at c_1
    exact ok_r ⟨trivial, k_1, kj_1⟩
