set_option maxHeartbeats 2000000 in
theorem s_B_X7_letter_0 (N : Nat) (hN : 4294967296 ≤ N) (σ : gI) (τ : gJ) (x1 : Int32) (hI : IC σ) : okp (Kqe σ τ (fun _ => True)) (B_X7_letter_0 N σ τ x1) := by
  unfold B_X7_letter_0
  refine ok_bd (s_B_X7_look_0 N hN σ τ x1 ((ic_eq (Eq.refl σ)) hI)) (fun r_1 σ_1 τ_1 hp_1 => ?_)
  have k_1 : σ_1 = σ := hp_1.2.1.trans (Eq.refl σ)
  have kj_1 : τ_1 = τ := hp_1.2.2.trans (Eq.refl τ)
  refine ok_ite (fun c_1 => ?_) (fun c_1 => ?_)
  · simp only [fa_lt, fa_le, fa_eq] at c_1
    exact ok_r ⟨trivial, k_1, kj_1⟩
  · simp only [fa_lt, fa_le, fa_eq] at c_1
    refine ok_ite (fun c_2 => ?_) (fun c_2 => ?_)
    · simp only [fa_lt, fa_le, fa_eq] at c_2
      exact ok_r ⟨trivial, k_1, kj_1⟩
    · simp only [fa_lt, fa_le, fa_eq] at c_2
      exact ok_r ⟨trivial, k_1, kj_1⟩
set_option maxHeartbeats 2000000 in
theorem s_B_X2_behindNumber_0 (N : Nat) (hN : 4294967296 ≤ N) (σ : gI) (τ : gJ) (x1 : Int32) (hI : IC σ) : okp (Kqe σ τ (fun _ => True)) (B_X2_behindNumber_0 N σ τ x1) := by
  unfold B_X2_behindNumber_0
  refine ok_bd (s_B_X7_digit_0 N hN σ τ x1 ((ic_eq (Eq.refl σ)) hI)) (fun r_1 σ_1 τ_1 hp_1 => ?_)
  have k_1 : σ_1 = σ := hp_1.2.1.trans (Eq.refl σ)
  have kj_1 : τ_1 = τ := hp_1.2.2.trans (Eq.refl τ)
  refine ok_ite (fun c_1 => ?_) (fun c_1 => ?_)
  · simp only [fa_lt, fa_le, fa_eq] at c_1
    refine ok_bd (s_B_X7_digit_0 N hN σ_1 τ_1 (x1 + 1) ((ic_eq k_1) hI)) (fun r_3 σ_3 τ_3 hp_3 => ?_)
    have k_3 : σ_3 = σ := hp_3.2.1.trans k_1
    have kj_3 : τ_3 = τ := hp_3.2.2.trans kj_1
    refine ok_ite (fun c_2 => ?_) (fun c_2 => ?_)
    · simp only [fa_lt, fa_le, fa_eq] at c_2
      exact ok_r ⟨trivial, k_3, kj_3⟩
    · simp only [fa_lt, fa_le, fa_eq] at c_2
      exact ok_r ⟨trivial, k_3, kj_3⟩
  · simp only [fa_lt, fa_le, fa_eq] at c_1
    exact ok_r ⟨trivial, k_1, kj_1⟩
set_option maxHeartbeats 2000000 in
theorem s_B_X2_numberAt_0 (N : Nat) (hN : 4294967296 ≤ N) (σ : gI) (τ : gJ) (x1 : Int32) (x2 : Int32) (hI : IC σ) : okp (Kqe σ τ (fun _ => True)) (B_X2_numberAt_0 N σ τ x1 x2) := by
  unfold B_X2_numberAt_0
  refine ok_bd (s_B_X7_digit_0 N hN σ τ x1 ((ic_eq (Eq.refl σ)) hI)) (fun r_1 σ_1 τ_1 hp_1 => ?_)
  have k_1 : σ_1 = σ := hp_1.2.1.trans (Eq.refl σ)
  have kj_1 : τ_1 = τ := hp_1.2.2.trans (Eq.refl τ)
  refine ok_ite (fun c_1 => ?_) (fun c_1 => ?_)
  · simp only [fa_lt, fa_le, fa_eq] at c_1
    exact ok_r ⟨trivial, k_1, kj_1⟩
  · simp only [fa_lt, fa_le, fa_eq] at c_1
    refine ok_bd (s_B_X7_digit_0 N hN σ_1 τ_1 (x1 + 1) ((ic_eq k_1) hI)) (fun r_3 σ_3 τ_3 hp_3 => ?_)
    have k_3 : σ_3 = σ := hp_3.2.1.trans k_1
    have kj_3 : τ_3 = τ := hp_3.2.2.trans kj_1
    exact ok_r ⟨trivial, k_3, kj_3⟩
set_option maxHeartbeats 2000000 in
theorem s_B_X7_hasSign_0 (N : Nat) (hN : 4294967296 ≤ N) (σ : gI) (τ : gJ) (x1 : Int32) (x2 : Int32) (hI : IC σ) : okp (Kqe σ τ (fun a => a = 0 ∨ a = 1)) (B_X7_hasSign_0 N σ τ x1 x2) := by
  unfold B_X7_hasSign_0
  refine ok_bd (s_B_X7_look_0 N hN σ τ x1 ((ic_eq (Eq.refl σ)) hI)) (fun r_1 σ_1 τ_1 hp_1 => ?_)
  have k_1 : σ_1 = σ := hp_1.2.1.trans (Eq.refl σ)
  have kj_1 : τ_1 = τ := hp_1.2.2.trans (Eq.refl τ)
  refine ok_ite (fun c_1 => ?_) (fun c_1 => ?_)
  · simp only [fa_lt, fa_le, fa_eq] at c_1
    exact ok_r ⟨(Or.inr rfl), k_1, kj_1⟩
  · simp only [fa_lt, fa_le, fa_eq] at c_1
    exact ok_r ⟨(Or.inl rfl), k_1, kj_1⟩
set_option maxHeartbeats 2000000 in
theorem s_B_X2_add_0 (N : Nat) (hN : 4294967296 ≤ N) (σ : gI) (τ : gJ) (x1 : Int32) (x2 : Int32) (x3 : Int32) (x4 : Int32) (hI : IC σ) : okp (Kq σ τ (fun _ => True)) (B_X2_add_0 N σ τ x1 x2 x3 x4) := by
  unfold B_X2_add_0
  refine ok_ite (fun c_1 => ?_) (fun c_1 => ?_)
  · simp only [fa_lt, fa_le, fa_eq] at c_1
    exact ok_r ⟨trivial, (ks_rf σ), (kj_rf τ)⟩
  · simp only [fa_lt, fa_le, fa_eq] at c_1
    refine ok_ite (fun c_2 => ?_) (fun c_2 => ?_)
    · simp only [fa_lt, fa_le, fa_eq] at c_2
      refine ok_ck (by have : (0 : Int32).toInt = 0 := rfl; have : (4 : Int32).toInt = 4 := rfl; have : (20 : Int32).toInt = 20 := rfl; have : (25 : Int32).toInt = 25 := rfl; have := i32_rng (σ 25 4); omega) (fun j_3 hj_3 lj_3 => ?_)
      refine ok_nm (fun σ_4 e_4 => ?_)
      have k_4 : KS σ σ_4 := ks_up (ks_rf σ) e_4 (by omega) (by omega) (by omega)
      refine ok_ck (by have : (0 : Int32).toInt = 0 := rfl; have : (4 : Int32).toInt = 4 := rfl; have : (20 : Int32).toInt = 20 := rfl; have : (25 : Int32).toInt = 25 := rfl; have := i32_rng (σ 25 4); have := i32_rng (σ_4 25 4); have : (σ_4 25 4).toInt = (σ 25 4).toInt := (by simp [up2, e_4]); omega) (fun j_5 hj_5 lj_5 => ?_)
      refine ok_nm (fun σ_6 e_6 => ?_)
      have k_6 : KS σ σ_6 := ks_up k_4 e_6 (by omega) (by omega) (by omega)
      refine ok_ck (by have : (0 : Int32).toInt = 0 := rfl; have : (4 : Int32).toInt = 4 := rfl; have : (20 : Int32).toInt = 20 := rfl; have : (25 : Int32).toInt = 25 := rfl; have := i32_rng (σ 25 4); have := i32_rng (σ_6 25 4); have : (σ_6 25 4).toInt = (σ 25 4).toInt := (by simp [up2, e_6, e_4]); omega) (fun j_7 hj_7 lj_7 => ?_)
      refine ok_nm (fun σ_8 e_8 => ?_)
      have k_8 : KS σ σ_8 := ks_up k_6 e_8 (by omega) (by omega) (by omega)
      refine ok_ck (by have : (0 : Int32).toInt = 0 := rfl; have : (4 : Int32).toInt = 4 := rfl; have : (20 : Int32).toInt = 20 := rfl; have : (25 : Int32).toInt = 25 := rfl; have := i32_rng (σ 25 4); have := i32_rng (σ_8 25 4); have : (σ_8 25 4).toInt = (σ 25 4).toInt := (by simp [up2, e_8, e_6, e_4]); omega) (fun j_9 hj_9 lj_9 => ?_)
      refine ok_nm (fun σ_10 e_10 => ?_)
      have k_10 : KS σ σ_10 := ks_up k_8 e_10 (by omega) (by omega) (by omega)
      refine ok_nm (fun σ_11 e_11 => ?_)
      have k_11 : KS σ σ_11 := ks_up k_10 e_11 (by omega) (by omega) (by omega)
      exact ok_r ⟨trivial, k_11, (kj_rf τ)⟩
    · simp only [fa_lt, fa_le, fa_eq] at c_2
      exact ok_r ⟨trivial, (ks_rf σ), (kj_rf τ)⟩
set_option maxHeartbeats 2000000 in
theorem s_B_X2_readPut_0 (N : Nat) (hN : 4294967296 ≤ N) (σ : gI) (τ : gJ) (x2 : Int32) (hI : IC σ) : okp (Kq σ τ (fun _ => True)) (B_X2_readPut_0 N σ τ x2) := by
  unfold B_X2_readPut_0
  refine ok_bd (s_B_X7_letter_0 N hN σ τ x2 ((ks_rf σ).1.2 hI)) (fun r_1 σ_1 τ_1 hp_1 => ?_)
  have k_1 : KS σ σ_1 := ks_eq (ks_rf σ) hp_1.2.1
  have kj_1 : KJ τ τ_1 := kj_eq (kj_rf τ) hp_1.2.2
  refine ok_ite (fun c_1 => ?_) (fun c_1 => ?_)
  · simp only [fa_lt, fa_le, fa_eq] at c_1
    refine ok_bd (s_B_X2_behindNumber_0 N hN σ_1 τ_1 (x2 + 1) (k_1.1.2 hI)) (fun r_3 σ_3 τ_3 hp_3 => ?_)
    have k_3 : KS σ σ_3 := ks_eq k_1 hp_3.2.1
    have kj_3 : KJ τ τ_3 := kj_eq kj_1 hp_3.2.2
    refine ok_ite (fun c_2 => ?_) (fun c_2 => ?_)
    · simp only [fa_lt, fa_le, fa_eq] at c_2
      refine ok_bd (s_B_X2_numberAt_0 N hN σ_3 τ_3 (x2 + 1) r_3 (k_3.1.2 hI)) (fun r_5 σ_5 τ_5 hp_5 => ?_)
      have k_5 : KS σ σ_5 := ks_eq k_3 hp_5.2.1
      have kj_5 : KJ τ τ_5 := kj_eq kj_3 hp_5.2.2
      refine ok_bd (s_B_X7_hasSign_0 N hN σ_5 τ_5 r_3 43 (k_5.1.2 hI)) (fun r_6 σ_6 τ_6 hp_6 => ?_)
      have k_6 : KS σ σ_6 := ks_eq k_5 hp_6.2.1
      have kj_6 : KJ τ τ_6 := kj_eq kj_5 hp_6.2.2
      refine ok_ite (fun c_3 => ?_) (fun c_3 => ?_)
      · simp only [fa_lt, fa_le, fa_eq] at c_3
        refine ok_bd (s_B_X2_add_0 N hN σ_6 τ_6 0 r_1 r_5 0 (k_6.1.2 hI)) (fun _ σ_11 τ_11 hp_11 => ?_)
        have k_11 : KS σ σ_11 := ks_tr k_6 hp_11.2.1
        have kj_11 : KJ τ τ_11 := kj_tr kj_6 hp_11.2.2
        exact ok_r ⟨trivial, k_11, kj_11⟩
      · simp only [fa_lt, fa_le, fa_eq] at c_3
        refine ok_bd (s_B_X7_digit_0 N hN σ_6 τ_6 (r_3 + 1) (k_6.1.2 hI)) (fun r_8 σ_8 τ_8 hp_8 => ?_)
        have k_8 : KS σ σ_8 := ks_eq k_6 hp_8.2.1
        have kj_8 : KJ τ τ_8 := kj_eq kj_6 hp_8.2.2
        refine ok_ite (fun c_4 => ?_) (fun c_4 => ?_)
        · simp only [fa_lt, fa_le, fa_eq] at c_4
          refine ok_bd (s_B_X2_add_0 N hN σ_8 τ_8 0 r_1 r_5 r_8 (k_8.1.2 hI)) (fun _ σ_10 τ_10 hp_10 => ?_)
          have k_10 : KS σ σ_10 := ks_tr k_8 hp_10.2.1
          have kj_10 : KJ τ τ_10 := kj_tr kj_8 hp_10.2.2
          exact ok_r ⟨trivial, k_10, kj_10⟩
        · simp only [fa_lt, fa_le, fa_eq] at c_4
          exact ok_r ⟨trivial, k_8, kj_8⟩
    · simp only [fa_lt, fa_le, fa_eq] at c_2
      exact ok_r ⟨trivial, k_3, kj_3⟩
  · simp only [fa_lt, fa_le, fa_eq] at c_1
    exact ok_r ⟨trivial, k_1, kj_1⟩
set_option maxHeartbeats 2000000 in
theorem s_B_X2_readTurn_0 (N : Nat) (hN : 4294967296 ≤ N) (σ : gI) (τ : gJ) (x2 : Int32) (hI : IC σ) : okp (Kq σ τ (fun _ => True)) (B_X2_readTurn_0 N σ τ x2) := by
  unfold B_X2_readTurn_0
  refine ok_bd (s_B_X7_letter_0 N hN σ τ x2 ((ks_rf σ).1.2 hI)) (fun r_1 σ_1 τ_1 hp_1 => ?_)
  have k_1 : KS σ σ_1 := ks_eq (ks_rf σ) hp_1.2.1
  have kj_1 : KJ τ τ_1 := kj_eq (kj_rf τ) hp_1.2.2
  refine ok_ite (fun c_1 => ?_) (fun c_1 => ?_)
  · simp only [fa_lt, fa_le, fa_eq] at c_1
    refine ok_bd (s_B_X2_add_0 N hN σ_1 τ_1 1 r_1 0 0 (k_1.1.2 hI)) (fun _ σ_3 τ_3 hp_3 => ?_)
    have k_3 : KS σ σ_3 := ks_tr k_1 hp_3.2.1
    have kj_3 : KJ τ τ_3 := kj_tr kj_1 hp_3.2.2
    exact ok_r ⟨trivial, k_3, kj_3⟩
  · simp only [fa_lt, fa_le, fa_eq] at c_1
    exact ok_r ⟨trivial, k_1, kj_1⟩
set_option maxHeartbeats 2000000 in
theorem s_B_X2_readMinutes_0 (N : Nat) (hN : 4294967296 ≤ N) (σ : gI) (τ : gJ) (x2 : Int32) (hI : IC σ) : okp (Kq σ τ (fun _ => True)) (B_X2_readMinutes_0 N σ τ x2) := by
  unfold B_X2_readMinutes_0
  refine ok_bd (s_B_X2_behindNumber_0 N hN σ τ x2 ((ks_rf σ).1.2 hI)) (fun r_1 σ_1 τ_1 hp_1 => ?_)
  have k_1 : KS σ σ_1 := ks_eq (ks_rf σ) hp_1.2.1
  have kj_1 : KJ τ τ_1 := kj_eq (kj_rf τ) hp_1.2.2
  refine ok_ite (fun c_1 => ?_) (fun c_1 => ?_)
  · simp only [fa_lt, fa_le, fa_eq] at c_1
    exact ok_r ⟨trivial, k_1, kj_1⟩
  · simp only [fa_lt, fa_le, fa_eq] at c_1
    refine ok_bd (s_B_X2_numberAt_0 N hN σ_1 τ_1 x2 r_1 (k_1.1.2 hI)) (fun r_3 σ_3 τ_3 hp_3 => ?_)
    have k_3 : KS σ σ_3 := ks_eq k_1 hp_3.2.1
    have kj_3 : KJ τ τ_3 := kj_eq kj_1 hp_3.2.2
    refine ok_bd (s_B_X2_add_0 N hN σ_3 τ_3 2 r_3 0 0 (k_3.1.2 hI)) (fun _ σ_4 τ_4 hp_4 => ?_)
    have k_4 : KS σ σ_4 := ks_tr k_3 hp_4.2.1
    have kj_4 : KJ τ τ_4 := kj_tr kj_3 hp_4.2.2
    exact ok_r ⟨trivial, k_4, kj_4⟩
set_option maxHeartbeats 2000000 in
theorem s_B_X2_readGive_0 (N : Nat) (hN : 4294967296 ≤ N) (σ : gI) (τ : gJ) (x2 : Int32) (hI : IC σ) : okp (Kq σ τ (fun _ => True)) (B_X2_readGive_0 N σ τ x2) := by
  unfold B_X2_readGive_0
  refine ok_bd (s_B_X7_digit_0 N hN σ τ x2 ((ks_rf σ).1.2 hI)) (fun r_1 σ_1 τ_1 hp_1 => ?_)
  have k_1 : KS σ σ_1 := ks_eq (ks_rf σ) hp_1.2.1
  have kj_1 : KJ τ τ_1 := kj_eq (kj_rf τ) hp_1.2.2
  refine ok_ite (fun c_1 => ?_) (fun c_1 => ?_)
  · simp only [fa_lt, fa_le, fa_eq] at c_1
    refine ok_bd (s_B_X7_digit_0 N hN σ_1 τ_1 (x2 + 1) (k_1.1.2 hI)) (fun r_3 σ_3 τ_3 hp_3 => ?_)
    have k_3 : KS σ σ_3 := ks_eq k_1 hp_3.2.1
    have kj_3 : KJ τ τ_3 := kj_eq kj_1 hp_3.2.2
    refine ok_ite (fun c_2 => ?_) (fun c_2 => ?_)
    · simp only [fa_lt, fa_le, fa_eq] at c_2
      refine ok_bd (s_B_X2_add_0 N hN σ_3 τ_3 3 r_1 r_3 0 (k_3.1.2 hI)) (fun _ σ_5 τ_5 hp_5 => ?_)
      have k_5 : KS σ σ_5 := ks_tr k_3 hp_5.2.1
      have kj_5 : KJ τ τ_5 := kj_tr kj_3 hp_5.2.2
      exact ok_r ⟨trivial, k_5, kj_5⟩
    · simp only [fa_lt, fa_le, fa_eq] at c_2
      exact ok_r ⟨trivial, k_3, kj_3⟩
  · simp only [fa_lt, fa_le, fa_eq] at c_1
    exact ok_r ⟨trivial, k_1, kj_1⟩
set_option maxHeartbeats 2000000 in
theorem s_B_X2_readAct_0 (N : Nat) (hN : 4294967296 ≤ N) (σ : gI) (τ : gJ) (x2 : Int32) (hI : IC σ) : okp (Kq σ τ (fun _ => True)) (B_X2_readAct_0 N σ τ x2) := by
  unfold B_X2_readAct_0
  refine ok_bd (s_B_X7_oneOf_0 N hN sb_3 (by decide) σ τ x2 ((ks_rf σ).1.2 hI)) (fun r_1 σ_1 τ_1 hp_1 => ?_)
  have k_1 : KS σ σ_1 := ks_eq (ks_rf σ) hp_1.2.1
  have kj_1 : KJ τ τ_1 := kj_eq (kj_rf τ) hp_1.2.2
  refine ok_ite (fun c_1 => ?_) (fun c_1 => ?_)
  · simp only [fa_lt, fa_le, fa_eq] at c_1
    refine ok_bd (s_B_X2_readPut_0 N hN σ_1 τ_1 (x2 + 1) (k_1.1.2 hI)) (fun r_3 σ_3 τ_3 hp_3 => ?_)
    have k_3 : KS σ σ_3 := ks_tr k_1 hp_3.2.1
    have kj_3 : KJ τ τ_3 := kj_tr kj_1 hp_3.2.2
    exact ok_r ⟨trivial, k_3, kj_3⟩
  · simp only [fa_lt, fa_le, fa_eq] at c_1
    refine ok_ite (fun c_2 => ?_) (fun c_2 => ?_)
    · simp only [fa_lt, fa_le, fa_eq] at c_2
      refine ok_bd (s_B_X2_readTurn_0 N hN σ_1 τ_1 (x2 + 1) (k_1.1.2 hI)) (fun r_5 σ_5 τ_5 hp_5 => ?_)
      have k_5 : KS σ σ_5 := ks_tr k_1 hp_5.2.1
      have kj_5 : KJ τ τ_5 := kj_tr kj_1 hp_5.2.2
      exact ok_r ⟨trivial, k_5, kj_5⟩
    · simp only [fa_lt, fa_le, fa_eq] at c_2
      refine ok_ite (fun c_3 => ?_) (fun c_3 => ?_)
      · simp only [fa_lt, fa_le, fa_eq] at c_3
        refine ok_bd (s_B_X2_readMinutes_0 N hN σ_1 τ_1 (x2 + 1) (k_1.1.2 hI)) (fun r_7 σ_7 τ_7 hp_7 => ?_)
        have k_7 : KS σ σ_7 := ks_tr k_1 hp_7.2.1
        have kj_7 : KJ τ τ_7 := kj_tr kj_1 hp_7.2.2
        exact ok_r ⟨trivial, k_7, kj_7⟩
      · simp only [fa_lt, fa_le, fa_eq] at c_3
        refine ok_ite (fun c_4 => ?_) (fun c_4 => ?_)
        · simp only [fa_lt, fa_le, fa_eq] at c_4
          refine ok_bd (s_B_X2_readGive_0 N hN σ_1 τ_1 (x2 + 1) (k_1.1.2 hI)) (fun r_9 σ_9 τ_9 hp_9 => ?_)
          have k_9 : KS σ σ_9 := ks_tr k_1 hp_9.2.1
          have kj_9 : KJ τ τ_9 := kj_tr kj_1 hp_9.2.2
          exact ok_r ⟨trivial, k_9, kj_9⟩
        · simp only [fa_lt, fa_le, fa_eq] at c_4
          exact ok_r ⟨trivial, k_1, kj_1⟩
set_option maxHeartbeats 2000000 in
theorem s_C_X2_read_25 (N : Nat) (hN : 4294967296 ≤ N) (rec_25 : gI → gJ → Int32 → Int32 → Option (Int32 × gI × gJ)) (n_25 : Nat) (hrec_25 : ∀ (σ : gI) (τ : gJ) (x2 : Int32) (x3 : Int32), IC σ → (0 ≤ x3.toInt) → (2147483647 - x3.toInt).toNat < n_25 → okp (Kq σ τ (fun _ => True)) (rec_25 σ τ x2 x3)) (σ : gI) (τ : gJ) (x2 : Int32) (x3 : Int32) (hI : IC σ) (h0_25 : 0 ≤ x3.toInt) (hm_25 : (2147483647 - x3.toInt).toNat < n_25 + 1) : okp (Kq σ τ (fun _ => True)) (C_X2_read_25 N rec_25 σ τ x2 x3) := by
  unfold C_X2_read_25
  refine ok_ite (fun c_1 => ?_) (fun c_1 => ?_)
  · simp only [fa_lt, fa_le, fa_eq] at c_1
    exact ok_r ⟨trivial, (ks_rf σ), (kj_rf τ)⟩
  · simp only [fa_lt, fa_le, fa_eq] at c_1
    refine ok_bd (s_B_X2_readAct_0 N hN σ τ x2 ((ks_rf σ).1.2 hI)) (fun r_2 σ_2 τ_2 hp_2 => ?_)
    have k_2 : KS σ σ_2 := ks_tr (ks_rf σ) hp_2.2.1
    have kj_2 : KJ τ τ_2 := kj_tr (kj_rf τ) hp_2.2.2
    refine ok_ite (fun c_2 => ?_) (fun c_2 => ?_)
    · simp only [fa_lt, fa_le, fa_eq] at c_2
      refine ok_bd (s_B_X7_isOver_0 N hN σ_2 τ_2 r_2 (k_2.1.2 hI)) (fun r_4 σ_4 τ_4 hp_4 => ?_)
      have k_4 : KS σ σ_4 := ks_eq k_2 hp_4.2.1
      have kj_4 : KJ τ τ_4 := kj_eq kj_2 hp_4.2.2
      refine ok_ite (fun c_3 => ?_) (fun c_3 => ?_)
      · simp only [fa_lt, fa_le, fa_eq] at c_3
        refine ok_bd (s_B_X7_hasSign_0 N hN σ_4 τ_4 r_2 59 (k_4.1.2 hI)) (fun r_6 σ_6 τ_6 hp_6 => ?_)
        have k_6 : KS σ σ_6 := ks_eq k_4 hp_6.2.1
        have kj_6 : KJ τ τ_6 := kj_eq kj_4 hp_6.2.2
        refine ok_ite (fun c_4 => ?_) (fun c_4 => ?_)
        · simp only [fa_lt, fa_le, fa_eq] at c_4
          exact ok_r ⟨trivial, k_6, kj_6⟩
        · simp only [fa_lt, fa_le, fa_eq] at c_4
          refine ok_nm (fun v_8 e_8 => ?_)
          refine ok_nm (fun v_9 e_9 => ?_)
          exact ok_mono (fun _ _ _ h9 => ⟨h9.1, ks_tr k_6 h9.2.1, kj_tr kj_6 h9.2.2⟩) (hrec_25 σ_6 τ_6 v_8 v_9 (k_6.1.2 hI) (by have : (0 : Int32).toInt = 0 := rfl; have : (1 : Int32).toInt = 1 := rfl; have : (20 : Int32).toInt = 20 := rfl; have := i32_rng r_2; have := i32_rng r_4; have := i32_rng r_6; have := i32_rng v_9; have := i32_rng x3; have u_v_9 : v_9.toInt = (x3).toInt + 1 := (by rw [e_9]; have q := ti_add (a := x3) (b := 1) (by rw [show (1 : Int32).toInt = 1 from rfl]; omega) (by rw [show (1 : Int32).toInt = 1 from rfl]; omega); rw [q, show (1 : Int32).toInt = 1 from rfl]); omega) (by have : (0 : Int32).toInt = 0 := rfl; have : (1 : Int32).toInt = 1 := rfl; have : (20 : Int32).toInt = 20 := rfl; have := i32_rng r_2; have := i32_rng r_4; have := i32_rng r_6; have := i32_rng v_9; have := i32_rng x3; have u_v_9 : v_9.toInt = (x3).toInt + 1 := (by rw [e_9]; have q := ti_add (a := x3) (b := 1) (by rw [show (1 : Int32).toInt = 1 from rfl]; omega) (by rw [show (1 : Int32).toInt = 1 from rfl]; omega); rw [q, show (1 : Int32).toInt = 1 from rfl]); omega))
      · simp only [fa_lt, fa_le, fa_eq] at c_3
        exact ok_r ⟨trivial, k_4, kj_4⟩
    · simp only [fa_lt, fa_le, fa_eq] at c_2
      exact ok_r ⟨trivial, k_2, kj_2⟩
theorem s_H_X2_read_25 (N : Nat) (hN : 4294967296 ≤ N) : ∀ (n : Nat) (σ : gI) (τ : gJ) (x2 : Int32) (x3 : Int32), IC σ → (0 ≤ x3.toInt) → (2147483647 - x3.toInt).toNat < n → okp (Kq σ τ (fun _ => True)) (H_X2_read_25 N n σ τ x2 x3) := by
  intro n
  induction n with
  | zero => intro σ τ x2 x3 _ _ hm; exact absurd hm (Nat.not_lt_zero _)
  | succ n ih =>
    intro σ τ x2 x3 hI h0_25 hm
    exact s_C_X2_read_25 N hN (H_X2_read_25 N n) n ih σ τ x2 x3 hI h0_25 hm
set_option maxHeartbeats 2000000 in
theorem s_B_X2_read_0 (N : Nat) (hN : 4294967296 ≤ N) (σ : gI) (τ : gJ) (hI : IC σ) : okp (Kq σ τ (fun _ => True)) (B_X2_read_0 N σ τ) := by
  unfold B_X2_read_0
  refine ok_nm (fun σ_1 e_1 => ?_)
  have k_1 : KS σ σ_1 := ks_up (ks_rf σ) e_1 (by omega) (by omega) (by omega)
  refine ok_bd (s_B_X7_showAtMost_0 N hN σ_1 τ 60 (k_1.1.2 hI)) (fun _ σ_2 τ_2 hp_2 => ?_)
  have k_2 : KS σ σ_2 := ks_tr k_1 hp_2.2.1
  have kj_2 : KJ τ τ_2 := kj_tr (kj_rf τ) hp_2.2.2
  refine ok_bd (s_B_X7_isOver_0 N hN σ_2 τ_2 0 (k_2.1.2 hI)) (fun r_3 σ_3 τ_3 hp_3 => ?_)
  have k_3 : KS σ σ_3 := ks_eq k_2 hp_3.2.1
  have kj_3 : KJ τ τ_3 := kj_eq kj_2 hp_3.2.2
  refine ok_ite (fun c_1 => ?_) (fun c_1 => ?_)
  · simp only [fa_lt, fa_le, fa_eq] at c_1
    exact ok_mono (fun _ _ _ h9 => ⟨h9.1, ks_tr k_3 h9.2.1, kj_tr kj_3 h9.2.2⟩) (s_H_X2_read_25 N hN N σ_3 τ_3 0 0 (k_3.1.2 hI) (by have : (0 : Int32).toInt = 0 := rfl; have := i32_rng r_3; omega) (by have : (0 : Int32).toInt = 0 := rfl; have := i32_rng r_3; omega))
  · simp only [fa_lt, fa_le, fa_eq] at c_1
    exact ok_r ⟨trivial, k_3, kj_3⟩
set_option maxHeartbeats 2000000 in
theorem s_B_X7_cut_0 (N : Nat) (hN : 4294967296 ≤ N) (σ : gI) (τ : gJ) (x1 : Int32) (hI : IC σ) : okp (Kq0 σ τ (fun a => a = 0 ∨ a = 1)) (B_X7_cut_0 N σ τ x1) := by
  unfold B_X7_cut_0
  refine ok_ite (fun c_1 => ?_) (fun c_1 => ?_)
  · simp only [fa_lt, fa_le, fa_eq] at c_1
    exact ok_r ⟨(Or.inl rfl), (k0_rf σ), (kj_rf τ)⟩
  · simp only [fa_lt, fa_le, fa_eq] at c_1
    refine ok_ite (fun c_2 => ?_) (fun c_2 => ?_)
    · simp only [fa_lt, fa_le, fa_eq] at c_2
      refine ok_nm (fun σ_3 e_3 => ?_)
      have k_3 : K0 σ σ_3 := k0_up (k0_rf σ) e_3 (by omega) (by omega)
      exact ok_r ⟨(Or.inr rfl), k_3, (kj_rf τ)⟩
    · simp only [fa_lt, fa_le, fa_eq] at c_2
      exact ok_r ⟨(Or.inl rfl), (k0_rf σ), (kj_rf τ)⟩
set_option maxHeartbeats 2000000 in
theorem s_B_X2_has_0 (N : Nat) (hN : 4294967296 ≤ N) (σ : gI) (τ : gJ) (x1 : Int32) (hI : IC σ) : okp (Kqe σ τ (fun a => (a.toInt = 0 ∨ a.toInt = 1) ∧ (a.toInt = 1 → 0 ≤ x1.toInt ∧ x1.toInt < 20))) (B_X2_has_0 N σ τ x1) := by
  unfold B_X2_has_0
  refine ok_ite (fun c_1 => ?_) (fun c_1 => ?_)
  · simp only [fa_lt, fa_le, fa_eq] at c_1
    exact ok_r ⟨(by have : (0 : Int32).toInt = 0 := rfl; have : (1 : Int32).toInt = 1 := rfl; have : (20 : Int32).toInt = 20 := rfl; have := i32_rng x1; omega), (Eq.refl σ), (Eq.refl τ)⟩
  · simp only [fa_lt, fa_le, fa_eq] at c_1
    refine ok_ite (fun c_2 => ?_) (fun c_2 => ?_)
    · simp only [fa_lt, fa_le, fa_eq] at c_2
      exact ok_r ⟨(by have : (0 : Int32).toInt = 0 := rfl; have : (1 : Int32).toInt = 1 := rfl; have : (4 : Int32).toInt = 4 := rfl; have : (20 : Int32).toInt = 20 := rfl; have : (25 : Int32).toInt = 25 := rfl; have := i32_rng (σ 25 4); have := i32_rng x1; omega), (Eq.refl σ), (Eq.refl τ)⟩
    · simp only [fa_lt, fa_le, fa_eq] at c_2
      refine ok_ite (fun c_3 => ?_) (fun c_3 => ?_)
      · simp only [fa_lt, fa_le, fa_eq] at c_3
        exact ok_r ⟨(by have : (0 : Int32).toInt = 0 := rfl; have : (1 : Int32).toInt = 1 := rfl; have : (4 : Int32).toInt = 4 := rfl; have : (20 : Int32).toInt = 20 := rfl; have : (25 : Int32).toInt = 25 := rfl; have := i32_rng (σ 25 4); have := i32_rng x1; omega), (Eq.refl σ), (Eq.refl τ)⟩
      · simp only [fa_lt, fa_le, fa_eq] at c_3
        exact ok_r ⟨(by have : (0 : Int32).toInt = 0 := rfl; have : (1 : Int32).toInt = 1 := rfl; have : (4 : Int32).toInt = 4 := rfl; have : (20 : Int32).toInt = 20 := rfl; have : (25 : Int32).toInt = 25 := rfl; have := i32_rng (σ 25 4); have := i32_rng x1; omega), (Eq.refl σ), (Eq.refl τ)⟩
set_option maxHeartbeats 2000000 in
theorem s_B_X2_firstOf_0 (N : Nat) (hN : 4294967296 ≤ N) (σ : gI) (τ : gJ) (x1 : Int32) (hI : IC σ) : okp (Kqe σ τ (fun _ => True)) (B_X2_firstOf_0 N σ τ x1) := by
  unfold B_X2_firstOf_0
  refine ok_bd (s_B_X2_has_0 N hN σ τ x1 ((ic_eq (Eq.refl σ)) hI)) (fun r_1 σ_1 τ_1 hp_1 => ?_)
  have k_1 : σ_1 = σ := hp_1.2.1.trans (Eq.refl σ)
  have kj_1 : τ_1 = τ := hp_1.2.2.trans (Eq.refl τ)
  have hb_1 :  (r_1.toInt = 0 ∨ r_1.toInt = 1) ∧ (r_1.toInt = 1 → 0 ≤ x1.toInt ∧ x1.toInt < 20) := hp_1.1
  refine ok_ite (fun c_1 => ?_) (fun c_1 => ?_)
  · simp only [fa_lt, fa_le, fa_eq] at c_1
    exact ok_r ⟨trivial, k_1, kj_1⟩
  · simp only [fa_lt, fa_le, fa_eq] at c_1
    refine ok_ck (by have : (0 : Int32).toInt = 0 := rfl; have : (20 : Int32).toInt = 20 := rfl; have := i32_rng r_1; have := i32_rng x1; omega) (fun j_3 hj_3 lj_3 => ?_)
    exact ok_r ⟨trivial, k_1, kj_1⟩
set_option maxHeartbeats 2000000 in
theorem s_B_X2_secondOf_0 (N : Nat) (hN : 4294967296 ≤ N) (σ : gI) (τ : gJ) (x1 : Int32) (hI : IC σ) : okp (Kqe σ τ (fun _ => True)) (B_X2_secondOf_0 N σ τ x1) := by
  unfold B_X2_secondOf_0
  refine ok_bd (s_B_X2_has_0 N hN σ τ x1 ((ic_eq (Eq.refl σ)) hI)) (fun r_1 σ_1 τ_1 hp_1 => ?_)
  have k_1 : σ_1 = σ := hp_1.2.1.trans (Eq.refl σ)
  have kj_1 : τ_1 = τ := hp_1.2.2.trans (Eq.refl τ)
  have hb_1 :  (r_1.toInt = 0 ∨ r_1.toInt = 1) ∧ (r_1.toInt = 1 → 0 ≤ x1.toInt ∧ x1.toInt < 20) := hp_1.1
  refine ok_ite (fun c_1 => ?_) (fun c_1 => ?_)
  · simp only [fa_lt, fa_le, fa_eq] at c_1
    exact ok_r ⟨trivial, k_1, kj_1⟩
  · simp only [fa_lt, fa_le, fa_eq] at c_1
    refine ok_ck (by have : (0 : Int32).toInt = 0 := rfl; have : (20 : Int32).toInt = 20 := rfl; have := i32_rng r_1; have := i32_rng x1; omega) (fun j_3 hj_3 lj_3 => ?_)
    exact ok_r ⟨trivial, k_1, kj_1⟩
set_option maxHeartbeats 2000000 in
theorem s_B_X2_kindOf_0 (N : Nat) (hN : 4294967296 ≤ N) (σ : gI) (τ : gJ) (x1 : Int32) (hI : IC σ) : okp (Kqe σ τ (fun _ => True)) (B_X2_kindOf_0 N σ τ x1) := by
  unfold B_X2_kindOf_0
  refine ok_bd (s_B_X2_has_0 N hN σ τ x1 ((ic_eq (Eq.refl σ)) hI)) (fun r_1 σ_1 τ_1 hp_1 => ?_)
  have k_1 : σ_1 = σ := hp_1.2.1.trans (Eq.refl σ)
  have kj_1 : τ_1 = τ := hp_1.2.2.trans (Eq.refl τ)
  have hb_1 :  (r_1.toInt = 0 ∨ r_1.toInt = 1) ∧ (r_1.toInt = 1 → 0 ≤ x1.toInt ∧ x1.toInt < 20) := hp_1.1
  refine ok_ite (fun c_1 => ?_) (fun c_1 => ?_)
  · simp only [fa_lt, fa_le, fa_eq] at c_1
    exact ok_r ⟨trivial, k_1, kj_1⟩
  · simp only [fa_lt, fa_le, fa_eq] at c_1
    refine ok_ck (by have : (0 : Int32).toInt = 0 := rfl; have : (20 : Int32).toInt = 20 := rfl; have := i32_rng r_1; have := i32_rng x1; omega) (fun j_3 hj_3 lj_3 => ?_)
    exact ok_r ⟨trivial, k_1, kj_1⟩
set_option maxHeartbeats 2000000 in
theorem s_B_X2_thirdOf_0 (N : Nat) (hN : 4294967296 ≤ N) (σ : gI) (τ : gJ) (x1 : Int32) (hI : IC σ) : okp (Kqe σ τ (fun _ => True)) (B_X2_thirdOf_0 N σ τ x1) := by
  unfold B_X2_thirdOf_0
  refine ok_bd (s_B_X2_has_0 N hN σ τ x1 ((ic_eq (Eq.refl σ)) hI)) (fun r_1 σ_1 τ_1 hp_1 => ?_)
  have k_1 : σ_1 = σ := hp_1.2.1.trans (Eq.refl σ)
  have kj_1 : τ_1 = τ := hp_1.2.2.trans (Eq.refl τ)
  have hb_1 :  (r_1.toInt = 0 ∨ r_1.toInt = 1) ∧ (r_1.toInt = 1 → 0 ≤ x1.toInt ∧ x1.toInt < 20) := hp_1.1
  refine ok_ite (fun c_1 => ?_) (fun c_1 => ?_)
  · simp only [fa_lt, fa_le, fa_eq] at c_1
    exact ok_r ⟨trivial, k_1, kj_1⟩
  · simp only [fa_lt, fa_le, fa_eq] at c_1
    refine ok_ck (by have : (0 : Int32).toInt = 0 := rfl; have : (20 : Int32).toInt = 20 := rfl; have := i32_rng r_1; have := i32_rng x1; omega) (fun j_3 hj_3 lj_3 => ?_)
    exact ok_r ⟨trivial, k_1, kj_1⟩
set_option maxHeartbeats 2000000 in
theorem s_B_X8_isFork_0 (N : Nat) (hN : 4294967296 ≤ N) (σ : gI) (τ : gJ) (x1 : Int32) (hI : IC σ) : okp (Kqe σ τ (fun a => a = 0 ∨ a = 1)) (B_X8_isFork_0 N σ τ x1) := by
  unfold B_X8_isFork_0
  refine ok_ite (fun c_1 => ?_) (fun c_1 => ?_)
  · simp only [fa_lt, fa_le, fa_eq] at c_1
    exact ok_r ⟨(Or.inl rfl), (Eq.refl σ), (Eq.refl τ)⟩
  · simp only [fa_lt, fa_le, fa_eq] at c_1
    refine ok_ite (fun c_2 => ?_) (fun c_2 => ?_)
    · simp only [fa_lt, fa_le, fa_eq] at c_2
      exact ok_r ⟨(Or.inl rfl), (Eq.refl σ), (Eq.refl τ)⟩
    · simp only [fa_lt, fa_le, fa_eq] at c_2
      refine ok_ite (fun c_3 => ?_) (fun c_3 => ?_)
      · simp only [fa_lt, fa_le, fa_eq] at c_3
        exact ok_r ⟨(Or.inl rfl), (Eq.refl σ), (Eq.refl τ)⟩
      · simp only [fa_lt, fa_le, fa_eq] at c_3
        exact ok_r ⟨(Or.inr rfl), (Eq.refl σ), (Eq.refl τ)⟩
set_option maxHeartbeats 2000000 in
theorem s_B_X6_enrich_0 (N : Nat) (hN : 4294967296 ≤ N) (c : Nat) (tc : gx_isS c) (σ : gI) (τ : gJ) (x1 : Int32) (x2 : Int32) (hI : IC σ) : okp (Kq σ τ (fun _ => True)) (B_X6_enrich_0 N c σ τ x1 x2) := by
  unfold B_X6_enrich_0
  have hc := isS_rng tc
  refine ok_ite (fun c_1 => ?_) (fun c_1 => ?_)
  · simp only [fa_lt, fa_le, fa_eq] at c_1
    exact ok_r ⟨trivial, (ks_rf σ), (kj_rf τ)⟩
  · simp only [fa_lt, fa_le, fa_eq] at c_1
    refine ok_ite (fun c_2 => ?_) (fun c_2 => ?_)
    · simp only [fa_lt, fa_le, fa_eq] at c_2
      refine ok_ck (by have : (0 : Int32).toInt = 0 := rfl; have : (6 : Int32).toInt = 6 := rfl; have := i32_rng x1; omega) (fun j_3 hj_3 lj_3 => ?_)
      refine ok_nm (fun σ_4 e_4 => ?_)
      have k_4 : KS σ σ_4 := ks_up (ks_rf σ) e_4 (by omega) (by omega) (by omega)
      exact ok_r ⟨trivial, k_4, (kj_rf τ)⟩
    · simp only [fa_lt, fa_le, fa_eq] at c_2
      exact ok_r ⟨trivial, (ks_rf σ), (kj_rf τ)⟩
set_option maxHeartbeats 2000000 in
theorem s_C_X11_passMinutes_2 (N : Nat) (hN : 4294967296 ≤ N) (rec_2 : gI → gJ → Int32 → Int32 → Option (Unit × gI × gJ)) (n_2 : Nat) (hrec_2 : ∀ (σ : gI) (τ : gJ) (x1 : Int32) (x2 : Int32), IC σ → (0 ≤ x2.toInt) → (2147483647 - x2.toInt).toNat < n_2 → okp (Kq σ τ (fun _ => True)) (rec_2 σ τ x1 x2)) (σ : gI) (τ : gJ) (x1 : Int32) (x2 : Int32) (hI : IC σ) (h0_2 : 0 ≤ x2.toInt) (hm_2 : (2147483647 - x2.toInt).toNat < n_2 + 1) : okp (Kq σ τ (fun _ => True)) (C_X11_passMinutes_2 N rec_2 σ τ x1 x2) := by
  unfold C_X11_passMinutes_2
  refine ok_ite (fun c_1 => ?_) (fun c_1 => ?_)
  · simp only [fa_lt, fa_le, fa_eq] at c_1
    exact ok_r ⟨trivial, (ks_rf σ), (kj_rf τ)⟩
  · simp only [fa_lt, fa_le, fa_eq] at c_1
    refine ok_bd (s_B_X1_pass_0 N hN 30 is_30 σ τ ((ks_rf σ).1.2 hI)) (fun _ σ_2 τ_2 hp_2 => ?_)
    have k_2 : KS σ σ_2 := ks_tr (ks_rf σ) hp_2.2.1
    have kj_2 : KJ τ τ_2 := kj_tr (kj_rf τ) hp_2.2.2
    refine ok_nm (fun v_3 e_3 => ?_)
    exact ok_mono (fun _ _ _ h9 => ⟨h9.1, ks_tr k_2 h9.2.1, kj_tr kj_2 h9.2.2⟩) (hrec_2 σ_2 τ_2 x1 v_3 (k_2.1.2 hI) (by have : (0 : Int32).toInt = 0 := rfl; have : (1 : Int32).toInt = 1 := rfl; have := i32_rng v_3; have := i32_rng x1; have := i32_rng x2; have u_v_3 : v_3.toInt = (x2).toInt + 1 := (by rw [e_3]; have q := ti_add (a := x2) (b := 1) (by rw [show (1 : Int32).toInt = 1 from rfl]; omega) (by rw [show (1 : Int32).toInt = 1 from rfl]; omega); rw [q, show (1 : Int32).toInt = 1 from rfl]); omega) (by have : (1 : Int32).toInt = 1 := rfl; have := i32_rng v_3; have := i32_rng x1; have := i32_rng x2; have u_v_3 : v_3.toInt = (x2).toInt + 1 := (by rw [e_3]; have q := ti_add (a := x2) (b := 1) (by rw [show (1 : Int32).toInt = 1 from rfl]; omega) (by rw [show (1 : Int32).toInt = 1 from rfl]; omega); rw [q, show (1 : Int32).toInt = 1 from rfl]); omega))
theorem s_H_X11_passMinutes_2 (N : Nat) (hN : 4294967296 ≤ N) : ∀ (n : Nat) (σ : gI) (τ : gJ) (x1 : Int32) (x2 : Int32), IC σ → (0 ≤ x2.toInt) → (2147483647 - x2.toInt).toNat < n → okp (Kq σ τ (fun _ => True)) (H_X11_passMinutes_2 N n σ τ x1 x2) := by
  intro n
  induction n with
  | zero => intro σ τ x1 x2 _ _ hm; exact absurd hm (Nat.not_lt_zero _)
  | succ n ih =>
    intro σ τ x1 x2 hI h0_2 hm
    exact s_C_X11_passMinutes_2 N hN (H_X11_passMinutes_2 N n) n ih σ τ x1 x2 hI h0_2 hm
set_option maxHeartbeats 2000000 in
theorem s_B_X11_passMinutes_0 (N : Nat) (hN : 4294967296 ≤ N) (σ : gI) (τ : gJ) (x1 : Int32) (hI : IC σ) : okp (Kq σ τ (fun _ => True)) (B_X11_passMinutes_0 N σ τ x1) := by
  unfold B_X11_passMinutes_0
  exact ok_mono (fun _ _ _ h9 => ⟨h9.1, ks_tr (ks_rf σ) h9.2.1, kj_tr (kj_rf τ) h9.2.2⟩) (s_H_X11_passMinutes_2 N hN N σ τ x1 0 ((ks_rf σ).1.2 hI) (by have : (0 : Int32).toInt = 0 := rfl; omega) (by have : (0 : Int32).toInt = 0 := rfl; omega))
set_option maxHeartbeats 2000000 in
theorem s_B_X11_perform_0 (N : Nat) (hN : 4294967296 ≤ N) (σ : gI) (τ : gJ) (x1 : Int32) (hI : IC σ) : okp (Kq σ τ (fun _ => True)) (B_X11_perform_0 N σ τ x1) := by
  unfold B_X11_perform_0
  refine ok_bd (s_B_X2_firstOf_0 N hN σ τ x1 ((ks_rf σ).1.2 hI)) (fun r_1 σ_1 τ_1 hp_1 => ?_)
  have k_1 : KS σ σ_1 := ks_eq (ks_rf σ) hp_1.2.1
  have kj_1 : KJ τ τ_1 := kj_eq (kj_rf τ) hp_1.2.2
  refine ok_bd (s_B_X2_secondOf_0 N hN σ_1 τ_1 x1 (k_1.1.2 hI)) (fun r_2 σ_2 τ_2 hp_2 => ?_)
  have k_2 : KS σ σ_2 := ks_eq k_1 hp_2.2.1
  have kj_2 : KJ τ τ_2 := kj_eq kj_1 hp_2.2.2
  refine ok_bd (s_B_X2_kindOf_0 N hN σ_2 τ_2 x1 (k_2.1.2 hI)) (fun r_3 σ_3 τ_3 hp_3 => ?_)
  have k_3 : KS σ σ_3 := ks_eq k_2 hp_3.2.1
  have kj_3 : KJ τ τ_3 := kj_eq kj_2 hp_3.2.2
  refine ok_ite (fun c_1 => ?_) (fun c_1 => ?_)
  · simp only [fa_lt, fa_le, fa_eq] at c_1
    refine ok_bd (s_B_X8_has_0 N hN σ_3 τ_3 r_1 (k_3.1.2 hI)) (fun r_5 σ_5 τ_5 hp_5 => ?_)
    have k_5 : KS σ σ_5 := ks_eq k_3 hp_5.2.1
    have kj_5 : KJ τ τ_5 := kj_eq kj_3 hp_5.2.2
    refine ok_ite (fun c_2 => ?_) (fun c_2 => ?_)
    · simp only [fa_lt, fa_le, fa_eq] at c_2
      exact ok_r ⟨trivial, k_5, kj_5⟩
    · simp only [fa_lt, fa_le, fa_eq] at c_2
      refine ok_ite (fun c_3 => ?_) (fun c_3 => ?_)
      · simp only [fa_lt, fa_le, fa_eq] at c_3
        refine ok_bd (s_B_X2_thirdOf_0 N hN σ_5 τ_5 x1 (k_5.1.2 hI)) (fun r_8 σ_8 τ_8 hp_8 => ?_)
        have k_8 : KS σ σ_8 := ks_eq k_5 hp_8.2.1
        have kj_8 : KJ τ τ_8 := kj_eq kj_5 hp_8.2.2
        refine ok_bd (s_B_X8_isKitchen_0 N hN σ_8 τ_8 r_1 (k_8.1.2 hI)) (fun r_9 σ_9 τ_9 hp_9 => ?_)
        have k_9 : KS σ σ_9 := ks_eq k_8 hp_9.2.1
        have kj_9 : KJ τ τ_9 := kj_eq kj_8 hp_9.2.2
        refine ok_bd (s_B_X6_add_0 N hN 30 is_30 σ_9 τ_9 r_1 r_2 r_8 0 r_9 (k_9.1.2 hI)) (fun r_10 σ_10 τ_10 hp_10 => ?_)
        have k_10 : KS σ σ_10 := ks_tr k_9 hp_10.2.1
        have kj_10 : KJ τ τ_10 := kj_tr kj_9 hp_10.2.2
        exact ok_r ⟨trivial, k_10, kj_10⟩
      · simp only [fa_lt, fa_le, fa_eq] at c_3
        exact ok_r ⟨trivial, k_5, kj_5⟩
  · simp only [fa_lt, fa_le, fa_eq] at c_1
    refine ok_ite (fun c_4 => ?_) (fun c_4 => ?_)
    · simp only [fa_lt, fa_le, fa_eq] at c_4
      refine ok_bd (s_B_X8_isFork_0 N hN σ_3 τ_3 r_1 (k_3.1.2 hI)) (fun r_12 σ_12 τ_12 hp_12 => ?_)
      have k_12 : KS σ σ_12 := ks_eq k_3 hp_12.2.1
      have kj_12 : KJ τ τ_12 := kj_eq kj_3 hp_12.2.2
      refine ok_ite (fun c_5 => ?_) (fun c_5 => ?_)
      · simp only [fa_lt, fa_le, fa_eq] at c_5
        exact ok_r ⟨trivial, k_12, kj_12⟩
      · simp only [fa_lt, fa_le, fa_eq] at c_5
        refine ok_nm (fun σ_14 e_14 => ?_)
        have k_14 : KS σ σ_14 := ks_up k_12 e_14 (by omega) (by omega) (by omega)
        exact ok_r ⟨trivial, k_14, kj_12⟩
    · simp only [fa_lt, fa_le, fa_eq] at c_4
      refine ok_ite (fun c_6 => ?_) (fun c_6 => ?_)
      · simp only [fa_lt, fa_le, fa_eq] at c_6
        refine ok_nm (fun v_16 e_16 => ?_)
        refine ok_bd (s_B_X11_passMinutes_0 N hN σ_3 τ_3 r_1 (k_3.1.2 hI)) (fun _ σ_17 τ_17 hp_17 => ?_)
        have k_17 : KS σ σ_17 := ks_tr k_3 hp_17.2.1
        have kj_17 : KJ τ τ_17 := kj_tr kj_3 hp_17.2.2
        refine ok_bd (s_B_J6_bitCount_0f7a4_0 N hN σ_17 τ_17 ((σ_17 30 9) &&& (v_16 ^^^ (-1))) (k_17.1.2 hI)) (fun r_18 σ_18 τ_18 hp_18 => ?_)
        have k_18 : KS σ σ_18 := ks_eq k_17 hp_18.2.1
        have kj_18 : KJ τ τ_18 := kj_eq kj_17 hp_18.2.2
        exact ok_r ⟨trivial, k_18, kj_18⟩
      · simp only [fa_lt, fa_le, fa_eq] at c_6
        refine ok_ite (fun c_7 => ?_) (fun c_7 => ?_)
        · simp only [fa_lt, fa_le, fa_eq] at c_7
          refine ok_bd (s_B_X6_isOnWay_0 N hN 30 is_30 σ_3 τ_3 r_1 (k_3.1.2 hI)) (fun r_20 σ_20 τ_20 hp_20 => ?_)
          have k_20 : KS σ σ_20 := ks_eq k_3 hp_20.2.1
          have kj_20 : KJ τ τ_20 := kj_eq kj_3 hp_20.2.2
          refine ok_ite (fun c_8 => ?_) (fun c_8 => ?_)
          · simp only [fa_lt, fa_le, fa_eq] at c_8
            exact ok_r ⟨trivial, k_20, kj_20⟩
          · simp only [fa_lt, fa_le, fa_eq] at c_8
            refine ok_bd (s_B_X6_enrich_0 N hN 30 is_30 σ_20 τ_20 r_1 r_2 (k_20.1.2 hI)) (fun r_22 σ_22 τ_22 hp_22 => ?_)
            have k_22 : KS σ σ_22 := ks_tr k_20 hp_22.2.1
            have kj_22 : KJ τ τ_22 := kj_tr kj_20 hp_22.2.2
            exact ok_r ⟨trivial, k_22, kj_22⟩
        · simp only [fa_lt, fa_le, fa_eq] at c_7
          refine ok_nm (fun v_23 e_23 => ?_)
          refine ok_bd (s_B_X11_passMinutes_0 N hN σ_3 τ_3 r_1 (k_3.1.2 hI)) (fun _ σ_24 τ_24 hp_24 => ?_)
          have k_24 : KS σ σ_24 := ks_tr k_3 hp_24.2.1
          have kj_24 : KJ τ τ_24 := kj_tr kj_3 hp_24.2.2
          refine ok_bd (s_B_J6_bitCount_0f7a4_0 N hN σ_24 τ_24 ((σ_24 30 9) &&& (v_23 ^^^ (-1))) (k_24.1.2 hI)) (fun r_25 σ_25 τ_25 hp_25 => ?_)
          have k_25 : KS σ σ_25 := ks_eq k_24 hp_25.2.1
          have kj_25 : KJ τ τ_25 := kj_eq kj_24 hp_25.2.2
          exact ok_r ⟨trivial, k_25, kj_25⟩
set_option maxHeartbeats 2000000 in
theorem s_B_X3_push_52 (N : Nat) (hN : 4294967296 ≤ N) (d : Nat) (td : gx_isS d) (σ : gI) (τ : gJ) (y0 : Int32) (hI : IC σ) : okp (Kq σ τ (fun _ => True)) (B_X3_push_52 N d σ τ y0) := by
  unfold B_X3_push_52
  have hd := isS_rng td
  refine ok_nm (fun σ_1 e_1 => ?_)
  have k_1 : KS σ σ_1 := ks_up (ks_rf σ) e_1 (by omega) (by omega) (by omega)
  refine ok_nm (fun σ_2 e_2 => ?_)
  have k_2 : KS σ σ_2 := ks_up k_1 e_2 (by omega) (by omega) (by omega)
  exact ok_r ⟨trivial, k_2, (kj_rf τ)⟩
set_option maxHeartbeats 2000000 in
theorem s_B_X3_push_0 (N : Nat) (hN : 4294967296 ≤ N) (d : Nat) (td : gx_isS d) (σ : gI) (τ : gJ) (hI : IC σ) : okp (Kq σ τ (fun _ => True)) (B_X3_push_0 N d σ τ) := by
  unfold B_X3_push_0
  have hd := isS_rng td
  refine ok_ite (fun c_1 => ?_) (fun c_1 => ?_)
  · simp only [fa_lt, fa_le, fa_eq] at c_1
    exact ok_r ⟨trivial, (ks_rf σ), (kj_rf τ)⟩
  · simp only [fa_lt, fa_le, fa_eq] at c_1
    refine ok_ite (fun c_2 => ?_) (fun c_2 => ?_)
    · simp only [fa_lt, fa_le, fa_eq] at c_2
      refine ok_ck (by have : (0 : Int32).toInt = 0 := rfl; have : (1 : Int32).toInt = 1 := rfl; have : (15 : Int32).toInt = 15 := rfl; have : (44 : Int32).toInt = 44 := rfl; have := i32_rng (σ 44 1); omega) (fun j_3 hj_3 lj_3 => ?_)
      refine ok_bd (s_B_X6_copy_0 N hN (46 + 7 * j_3) (tb_past lj_3) d td σ τ ((ks_rf σ).1.2 hI)) (fun _ σ_4 τ_4 hp_4 => ?_)
      have k_4 : KS σ σ_4 := ks_tr (ks_rf σ) hp_4.2.1
      have kj_4 : KJ τ τ_4 := kj_tr (kj_rf τ) hp_4.2.2
      refine ok_ite (fun c_3 => ?_) (fun c_3 => ?_)
      · simp only [fa_lt, fa_le, fa_eq] at c_3
        exact ok_mono (fun _ _ _ h9 => ⟨h9.1, ks_tr k_4 h9.2.1, kj_tr kj_4 h9.2.2⟩) (s_B_X3_push_52 N hN d td σ_4 τ_4 0 (k_4.1.2 hI))
      · simp only [fa_lt, fa_le, fa_eq] at c_3
        exact ok_mono (fun _ _ _ h9 => ⟨h9.1, ks_tr k_4 h9.2.1, kj_tr kj_4 h9.2.2⟩) (s_B_X3_push_52 N hN d td σ_4 τ_4 ((σ_4 44 1) + 1) (k_4.1.2 hI))
    · simp only [fa_lt, fa_le, fa_eq] at c_2
      exact ok_r ⟨trivial, (ks_rf σ), (kj_rf τ)⟩
set_option maxHeartbeats 2000000 in
theorem s_B_X11_day_113 (N : Nat) (hN : 4294967296 ≤ N) (σ : gI) (τ : gJ) (x2 : Int32) (x3 : Int32) (x4 : Int32) (hI : IC σ) : okp (Kq0 σ τ (fun _ => True)) (B_X11_day_113 N σ τ x2 x3 x4) := by
  unfold B_X11_day_113
  refine ok_ite (fun c_1 => ?_) (fun c_1 => ?_)
  · simp only [fa_lt, fa_le, fa_eq] at c_1
    refine ok_bd (s_B_X4_tell__0 N hN σ τ 1 x3.toInt64 ((k0_rf σ).2 hI)) (fun _ σ_2 τ_2 hp_2 => ?_)
    have k_2 : K0 σ σ_2 := k0_tr (k0_rf σ) (ks_0 hp_2.2.1)
    have kj_2 : KJ τ τ_2 := kj_tr (kj_rf τ) hp_2.2.2
    exact ok_r ⟨trivial, k_2, kj_2⟩
  · simp only [fa_lt, fa_le, fa_eq] at c_1
    refine ok_bd (s_B_X4_tell__0 N hN σ τ 0 x3.toInt64 ((k0_rf σ).2 hI)) (fun _ σ_3 τ_3 hp_3 => ?_)
    have k_3 : K0 σ σ_3 := k0_tr (k0_rf σ) (ks_0 hp_3.2.1)
    have kj_3 : KJ τ τ_3 := kj_tr (kj_rf τ) hp_3.2.2
    exact ok_r ⟨trivial, k_3, kj_3⟩
set_option maxHeartbeats 2000000 in
theorem s_C_X11_day_48 (N : Nat) (hN : 4294967296 ≤ N) (rec_48 : gI → gJ → Int32 → Int32 → Int32 → Int32 → Int32 → Option (Int32 × gI × gJ)) (n_48 : Nat) (hrec_48 : ∀ (σ : gI) (τ : gJ) (x1 : Int32) (x2 : Int32) (x3 : Int32) (x4 : Int32) (x5 : Int32), IC σ → (0 ≤ x5.toInt) → (2147483647 - x5.toInt).toNat < n_48 → okp (Kq0 σ τ (fun _ => True)) (rec_48 σ τ x1 x2 x3 x4 x5)) (σ : gI) (τ : gJ) (x1 : Int32) (x2 : Int32) (x3 : Int32) (x4 : Int32) (x5 : Int32) (hI : IC σ) (h0_48 : 0 ≤ x5.toInt) (hm_48 : (2147483647 - x5.toInt).toNat < n_48 + 1) : okp (Kq0 σ τ (fun _ => True)) (C_X11_day_48 N rec_48 σ τ x1 x2 x3 x4 x5) := by
  unfold C_X11_day_48
  refine ok_ite (fun c_1 => ?_) (fun c_1 => ?_)
  · simp only [fa_lt, fa_le, fa_eq] at c_1
    refine ok_ite (fun c_2 => ?_) (fun c_2 => ?_)
    · simp only [fa_lt, fa_le, fa_eq] at c_2
      exact ok_mono (fun _ _ _ h9 => ⟨h9.1, k0_tr (k0_rf σ) h9.2.1, kj_tr (kj_rf τ) h9.2.2⟩) (s_B_X11_day_113 N hN σ τ x2 x3 x4 ((k0_rf σ).2 hI))
    · simp only [fa_lt, fa_le, fa_eq] at c_2
      refine ok_bd (s_B_X3_push_0 N hN 37 is_37 σ τ ((k0_rf σ).2 hI)) (fun _ σ_3 τ_3 hp_3 => ?_)
      have k_3 : K0 σ σ_3 := k0_tr (k0_rf σ) (ks_0 hp_3.2.1)
      have kj_3 : KJ τ τ_3 := kj_tr (kj_rf τ) hp_3.2.2
      exact ok_mono (fun _ _ _ h9 => ⟨h9.1, k0_tr k_3 h9.2.1, kj_tr kj_3 h9.2.2⟩) (s_B_X11_day_113 N hN σ_3 τ_3 x2 x3 x4 (k_3.2 hI))
  · simp only [fa_lt, fa_le, fa_eq] at c_1
    refine ok_ite (fun c_3 => ?_) (fun c_3 => ?_)
    · simp only [fa_lt, fa_le, fa_eq] at c_3
      refine ok_ite (fun c_4 => ?_) (fun c_4 => ?_)
      · simp only [fa_lt, fa_le, fa_eq] at c_4
        exact ok_mono (fun _ _ _ h9 => ⟨h9.1, k0_tr (k0_rf σ) h9.2.1, kj_tr (kj_rf τ) h9.2.2⟩) (s_B_X11_day_113 N hN σ τ x2 x3 x4 ((k0_rf σ).2 hI))
      · simp only [fa_lt, fa_le, fa_eq] at c_4
        refine ok_bd (s_B_X3_push_0 N hN 37 is_37 σ τ ((k0_rf σ).2 hI)) (fun _ σ_6 τ_6 hp_6 => ?_)
        have k_6 : K0 σ σ_6 := k0_tr (k0_rf σ) (ks_0 hp_6.2.1)
        have kj_6 : KJ τ τ_6 := kj_tr (kj_rf τ) hp_6.2.2
        exact ok_mono (fun _ _ _ h9 => ⟨h9.1, k0_tr k_6 h9.2.1, kj_tr kj_6 h9.2.2⟩) (s_B_X11_day_113 N hN σ_6 τ_6 x2 x3 x4 (k_6.2 hI))
    · simp only [fa_lt, fa_le, fa_eq] at c_3
      refine ok_bd (s_B_X11_perform_0 N hN σ τ x5 ((k0_rf σ).2 hI)) (fun r_7 σ_7 τ_7 hp_7 => ?_)
      have k_7 : K0 σ σ_7 := k0_tr (k0_rf σ) (ks_0 hp_7.2.1)
      have kj_7 : KJ τ τ_7 := kj_tr (kj_rf τ) hp_7.2.2
      refine ok_ite (fun c_5 => ?_) (fun c_5 => ?_)
      · simp only [fa_lt, fa_le, fa_eq] at c_5
        refine ok_nm (fun v_9 e_9 => ?_)
        exact ok_mono (fun _ _ _ h9 => ⟨h9.1, k0_tr k_7 h9.2.1, kj_tr kj_7 h9.2.2⟩) (hrec_48 σ_7 τ_7 x1 x2 x3 0 v_9 (k_7.2 hI) (by have : (0 : Int32).toInt = 0 := rfl; have : (1 : Int32).toInt = 1 := rfl; have := i32_rng r_7; have := i32_rng v_9; have := i32_rng x1; have := i32_rng x4; have := i32_rng x5; have u_v_9 : v_9.toInt = (x5).toInt + 1 := (by rw [e_9]; have q := ti_add (a := x5) (b := 1) (by rw [show (1 : Int32).toInt = 1 from rfl]; omega) (by rw [show (1 : Int32).toInt = 1 from rfl]; omega); rw [q, show (1 : Int32).toInt = 1 from rfl]); omega) (by have : (0 : Int32).toInt = 0 := rfl; have : (1 : Int32).toInt = 1 := rfl; have := i32_rng r_7; have := i32_rng v_9; have := i32_rng x1; have := i32_rng x4; have := i32_rng x5; have u_v_9 : v_9.toInt = (x5).toInt + 1 := (by rw [e_9]; have q := ti_add (a := x5) (b := 1) (by rw [show (1 : Int32).toInt = 1 from rfl]; omega) (by rw [show (1 : Int32).toInt = 1 from rfl]; omega); rw [q, show (1 : Int32).toInt = 1 from rfl]); omega))
      · simp only [fa_lt, fa_le, fa_eq] at c_5
        refine ok_nm (fun v_10 e_10 => ?_)
        refine ok_nm (fun v_11 e_11 => ?_)
        refine ok_nm (fun v_12 e_12 => ?_)
        exact ok_mono (fun _ _ _ h9 => ⟨h9.1, k0_tr k_7 h9.2.1, kj_tr kj_7 h9.2.2⟩) (hrec_48 σ_7 τ_7 x1 v_10 v_11 1 v_12 (k_7.2 hI) (by have : (0 : Int32).toInt = 0 := rfl; have : (1 : Int32).toInt = 1 := rfl; have := i32_rng r_7; have := i32_rng v_12; have := i32_rng x1; have := i32_rng x4; have := i32_rng x5; have u_v_12 : v_12.toInt = (x5).toInt + 1 := (by rw [e_12]; have q := ti_add (a := x5) (b := 1) (by rw [show (1 : Int32).toInt = 1 from rfl]; omega) (by rw [show (1 : Int32).toInt = 1 from rfl]; omega); rw [q, show (1 : Int32).toInt = 1 from rfl]); omega) (by have : (0 : Int32).toInt = 0 := rfl; have : (1 : Int32).toInt = 1 := rfl; have := i32_rng r_7; have := i32_rng v_12; have := i32_rng x1; have := i32_rng x4; have := i32_rng x5; have u_v_12 : v_12.toInt = (x5).toInt + 1 := (by rw [e_12]; have q := ti_add (a := x5) (b := 1) (by rw [show (1 : Int32).toInt = 1 from rfl]; omega) (by rw [show (1 : Int32).toInt = 1 from rfl]; omega); rw [q, show (1 : Int32).toInt = 1 from rfl]); omega))
theorem s_H_X11_day_48 (N : Nat) (hN : 4294967296 ≤ N) : ∀ (n : Nat) (σ : gI) (τ : gJ) (x1 : Int32) (x2 : Int32) (x3 : Int32) (x4 : Int32) (x5 : Int32), IC σ → (0 ≤ x5.toInt) → (2147483647 - x5.toInt).toNat < n → okp (Kq0 σ τ (fun _ => True)) (H_X11_day_48 N n σ τ x1 x2 x3 x4 x5) := by
  intro n
  induction n with
  | zero => intro σ τ x1 x2 x3 x4 x5 _ _ hm; exact absurd hm (Nat.not_lt_zero _)
  | succ n ih =>
    intro σ τ x1 x2 x3 x4 x5 hI h0_48 hm
    exact s_C_X11_day_48 N hN (H_X11_day_48 N n) n ih σ τ x1 x2 x3 x4 x5 hI h0_48 hm
set_option maxHeartbeats 2000000 in
theorem s_B_X11_day_0 (N : Nat) (hN : 4294967296 ≤ N) (σ : gI) (τ : gJ) (hI : IC σ) : okp (Kq0 σ τ (fun _ => True)) (B_X11_day_0 N σ τ) := by
  unfold B_X11_day_0
  refine ok_bd (s_B_X2_read_0 N hN σ τ ((k0_rf σ).2 hI)) (fun r_1 σ_1 τ_1 hp_1 => ?_)
  have k_1 : K0 σ σ_1 := k0_tr (k0_rf σ) (ks_0 hp_1.2.1)
  have kj_1 : KJ τ τ_1 := kj_tr (kj_rf τ) hp_1.2.2
  refine ok_bd (s_B_X7_cut_0 N hN σ_1 τ_1 0 (k_1.2 hI)) (fun r_2 σ_2 τ_2 hp_2 => ?_)
  have k_2 : K0 σ σ_2 := k0_tr k_1 hp_2.2.1
  have kj_2 : KJ τ τ_2 := kj_tr kj_1 hp_2.2.2
  refine ok_ite (fun c_1 => ?_) (fun c_1 => ?_)
  · simp only [fa_lt, fa_le, fa_eq] at c_1
    refine ok_bd (s_B_X6_copy_0 N hN 37 is_37 30 is_30 σ_2 τ_2 (k_2.2 hI)) (fun _ σ_4 τ_4 hp_4 => ?_)
    have k_4 : K0 σ σ_4 := k0_tr k_2 (ks_0 hp_4.2.1)
    have kj_4 : KJ τ τ_4 := kj_tr kj_2 hp_4.2.2
    exact ok_mono (fun _ _ _ h9 => ⟨h9.1, k0_tr k_4 h9.2.1, kj_tr kj_4 h9.2.2⟩) (s_H_X11_day_48 N hN N σ_4 τ_4 r_1 0 0 1 0 (k_4.2 hI) (by have : (0 : Int32).toInt = 0 := rfl; have := i32_rng r_1; omega) (by have : (0 : Int32).toInt = 0 := rfl; have := i32_rng r_1; omega))
  · simp only [fa_lt, fa_le, fa_eq] at c_1
    exact ok_r ⟨trivial, k_2, kj_2⟩
set_option maxHeartbeats 2000000 in
theorem s_B_X9_remember_0 (N : Nat) (hN : 4294967296 ≤ N) (σ : gI) (τ : gJ) (x1 : Int32) (x2 : Int32) (hI : IC σ) : okp (Kq σ τ (fun _ => True)) (B_X9_remember_0 N σ τ x1 x2) := by
  unfold B_X9_remember_0
  refine ok_ite (fun c_1 => ?_) (fun c_1 => ?_)
  · simp only [fa_lt, fa_le, fa_eq] at c_1
    exact ok_r ⟨trivial, (ks_rf σ), (kj_rf τ)⟩
  · simp only [fa_lt, fa_le, fa_eq] at c_1
    refine ok_ite (fun c_2 => ?_) (fun c_2 => ?_)
    · simp only [fa_lt, fa_le, fa_eq] at c_2
      exact ok_r ⟨trivial, (ks_rf σ), (kj_rf τ)⟩
    · simp only [fa_lt, fa_le, fa_eq] at c_2
      refine ok_ck (by have : (0 : Int32).toInt = 0 := rfl; have : (4096 : Int32).toInt = 4096 := rfl; have := i32_rng x1; omega) (fun j_3 hj_3 lj_3 => ?_)
      refine ok_nm (fun σ_4 e_4 => ?_)
      have k_4 : KS σ σ_4 := ks_up (ks_rf σ) e_4 (by omega) (by omega) (by omega)
      exact ok_r ⟨trivial, k_4, (kj_rf τ)⟩
set_option maxHeartbeats 2000000 in
theorem s_B_X8_nextSet_0 (N : Nat) (hN : 4294967296 ≤ N) (σ : gI) (τ : gJ) (x1 : Int32) (hI : IC σ) : okp (Kqe σ τ (fun _ => True)) (B_X8_nextSet_0 N σ τ x1) := by
  unfold B_X8_nextSet_0
  exact ok_r ⟨trivial, (Eq.refl σ), (Eq.refl τ)⟩
set_option maxHeartbeats 2000000 in
theorem s_C_X9_forgetSets_4 (N : Nat) (hN : 4294967296 ≤ N) (rec_4 : gI → gJ → Int32 → Int32 → Option (Unit × gI × gJ)) (n_4 : Nat) (hrec_4 : ∀ (σ : gI) (τ : gJ) (x1 : Int32) (x2 : Int32), IC σ → (0 ≤ x2.toInt) → (2147483647 - x2.toInt).toNat < n_4 → okp (Kq σ τ (fun _ => True)) (rec_4 σ τ x1 x2)) (σ : gI) (τ : gJ) (x1 : Int32) (x2 : Int32) (hI : IC σ) (h0_4 : 0 ≤ x2.toInt) (hm_4 : (2147483647 - x2.toInt).toNat < n_4 + 1) : okp (Kq σ τ (fun _ => True)) (C_X9_forgetSets_4 N rec_4 σ τ x1 x2) := by
  unfold C_X9_forgetSets_4
  refine ok_ite (fun c_1 => ?_) (fun c_1 => ?_)
  · simp only [fa_lt, fa_le, fa_eq] at c_1
    exact ok_r ⟨trivial, (ks_rf σ), (kj_rf τ)⟩
  · simp only [fa_lt, fa_le, fa_eq] at c_1
    refine ok_bd (s_B_X9_remember_0 N hN σ τ x1 (-2) ((ks_rf σ).1.2 hI)) (fun _ σ_2 τ_2 hp_2 => ?_)
    have k_2 : KS σ σ_2 := ks_tr (ks_rf σ) hp_2.2.1
    have kj_2 : KJ τ τ_2 := kj_tr (kj_rf τ) hp_2.2.2
    refine ok_bd (s_B_X8_nextSet_0 N hN σ_2 τ_2 x1 (k_2.1.2 hI)) (fun r_3 σ_3 τ_3 hp_3 => ?_)
    have k_3 : KS σ σ_3 := ks_eq k_2 hp_3.2.1
    have kj_3 : KJ τ τ_3 := kj_eq kj_2 hp_3.2.2
    refine ok_nm (fun v_4 e_4 => ?_)
    exact ok_mono (fun _ _ _ h9 => ⟨h9.1, ks_tr k_3 h9.2.1, kj_tr kj_3 h9.2.2⟩) (hrec_4 σ_3 τ_3 r_3 v_4 (k_3.1.2 hI) (by have : (0 : Int32).toInt = 0 := rfl; have : (1 : Int32).toInt = 1 := rfl; have : (3 : Int32).toInt = 3 := rfl; have : (8 : Int32).toInt = 8 := rfl; have := i32_rng (σ 3 8); have := i32_rng v_4; have := i32_rng x2; have u_v_4 : v_4.toInt = (x2).toInt + 1 := (by rw [e_4]; have q := ti_add (a := x2) (b := 1) (by rw [show (1 : Int32).toInt = 1 from rfl]; omega) (by rw [show (1 : Int32).toInt = 1 from rfl]; omega); rw [q, show (1 : Int32).toInt = 1 from rfl]); omega) (by have : (1 : Int32).toInt = 1 := rfl; have : (3 : Int32).toInt = 3 := rfl; have : (8 : Int32).toInt = 8 := rfl; have := i32_rng (σ 3 8); have := i32_rng v_4; have := i32_rng x2; have u_v_4 : v_4.toInt = (x2).toInt + 1 := (by rw [e_4]; have q := ti_add (a := x2) (b := 1) (by rw [show (1 : Int32).toInt = 1 from rfl]; omega) (by rw [show (1 : Int32).toInt = 1 from rfl]; omega); rw [q, show (1 : Int32).toInt = 1 from rfl]); omega))
theorem s_H_X9_forgetSets_4 (N : Nat) (hN : 4294967296 ≤ N) : ∀ (n : Nat) (σ : gI) (τ : gJ) (x1 : Int32) (x2 : Int32), IC σ → (0 ≤ x2.toInt) → (2147483647 - x2.toInt).toNat < n → okp (Kq σ τ (fun _ => True)) (H_X9_forgetSets_4 N n σ τ x1 x2) := by
  intro n
  induction n with
  | zero => intro σ τ x1 x2 _ _ hm; exact absurd hm (Nat.not_lt_zero _)
  | succ n ih =>
    intro σ τ x1 x2 hI h0_4 hm
    exact s_C_X9_forgetSets_4 N hN (H_X9_forgetSets_4 N n) n ih σ τ x1 x2 hI h0_4 hm
set_option maxHeartbeats 2000000 in
theorem s_B_X9_forgetSets_0 (N : Nat) (hN : 4294967296 ≤ N) (σ : gI) (τ : gJ) (hI : IC σ) : okp (Kq σ τ (fun _ => True)) (B_X9_forgetSets_0 N σ τ) := by
  unfold B_X9_forgetSets_0
  exact ok_mono (fun _ _ _ h9 => ⟨h9.1, ks_tr (ks_rf σ) h9.2.1, kj_tr (kj_rf τ) h9.2.2⟩) (s_H_X9_forgetSets_4 N hN N σ τ 0 0 ((ks_rf σ).1.2 hI) (by have : (0 : Int32).toInt = 0 := rfl; omega) (by have : (0 : Int32).toInt = 0 := rfl; omega))
set_option maxHeartbeats 2000000 in
theorem s_C_X9_spread_32 (N : Nat) (hN : 4294967296 ≤ N) (rec_32 : gI → gJ → Int32 → Int32 → Int32 → Int32 → Int32 → Int32 → Option (Unit × gI × gJ)) (n_32 : Nat) (hrec_32 : ∀ (σ : gI) (τ : gJ) (x1 : Int32) (x2 : Int32) (x3 : Int32) (x4 : Int32) (x5 : Int32) (x6 : Int32), IC σ → (0 ≤ x6.toInt) → (2147483647 - x6.toInt).toNat < n_32 → okp (Kq σ τ (fun _ => True)) (rec_32 σ τ x1 x2 x3 x4 x5 x6)) (σ : gI) (τ : gJ) (x1 : Int32) (x2 : Int32) (x3 : Int32) (x4 : Int32) (x5 : Int32) (x6 : Int32) (hI : IC σ) (h0_32 : 0 ≤ x6.toInt) (hm_32 : (2147483647 - x6.toInt).toNat < n_32 + 1) : okp (Kq σ τ (fun _ => True)) (C_X9_spread_32 N rec_32 σ τ x1 x2 x3 x4 x5 x6) := by
  unfold C_X9_spread_32
  refine ok_ite (fun c_1 => ?_) (fun c_1 => ?_)
  · simp only [fa_lt, fa_le, fa_eq] at c_1
    exact ok_r ⟨trivial, (ks_rf σ), (kj_rf τ)⟩
  · simp only [fa_lt, fa_le, fa_eq] at c_1
    refine ok_bd (s_B_X9_remember_0 N hN σ τ ((x1 &&& (x3 ^^^ (-1))) ||| x5) x2 ((ks_rf σ).1.2 hI)) (fun _ σ_2 τ_2 hp_2 => ?_)
    have k_2 : KS σ σ_2 := ks_tr (ks_rf σ) hp_2.2.1
    have kj_2 : KJ τ τ_2 := kj_tr (kj_rf τ) hp_2.2.2
    refine ok_nm (fun v_3 e_3 => ?_)
    refine ok_nm (fun v_4 e_4 => ?_)
    exact ok_mono (fun _ _ _ h9 => ⟨h9.1, ks_tr k_2 h9.2.1, kj_tr kj_2 h9.2.2⟩) (hrec_32 σ_2 τ_2 x1 x2 x3 x4 v_3 v_4 (k_2.1.2 hI) (by have : (0 : Int32).toInt = 0 := rfl; have : (1 : Int32).toInt = 1 := rfl; have := i32_rng v_4; have := i32_rng x4; have := i32_rng x6; have u_v_4 : v_4.toInt = (x6).toInt + 1 := (by rw [e_4]; have q := ti_add (a := x6) (b := 1) (by rw [show (1 : Int32).toInt = 1 from rfl]; omega) (by rw [show (1 : Int32).toInt = 1 from rfl]; omega); rw [q, show (1 : Int32).toInt = 1 from rfl]); omega) (by have : (1 : Int32).toInt = 1 := rfl; have := i32_rng v_4; have := i32_rng x4; have := i32_rng x6; have u_v_4 : v_4.toInt = (x6).toInt + 1 := (by rw [e_4]; have q := ti_add (a := x6) (b := 1) (by rw [show (1 : Int32).toInt = 1 from rfl]; omega) (by rw [show (1 : Int32).toInt = 1 from rfl]; omega); rw [q, show (1 : Int32).toInt = 1 from rfl]); omega))
theorem s_H_X9_spread_32 (N : Nat) (hN : 4294967296 ≤ N) : ∀ (n : Nat) (σ : gI) (τ : gJ) (x1 : Int32) (x2 : Int32) (x3 : Int32) (x4 : Int32) (x5 : Int32) (x6 : Int32), IC σ → (0 ≤ x6.toInt) → (2147483647 - x6.toInt).toNat < n → okp (Kq σ τ (fun _ => True)) (H_X9_spread_32 N n σ τ x1 x2 x3 x4 x5 x6) := by
  intro n
  induction n with
  | zero => intro σ τ x1 x2 x3 x4 x5 x6 _ _ hm; exact absurd hm (Nat.not_lt_zero _)
  | succ n ih =>
    intro σ τ x1 x2 x3 x4 x5 x6 hI h0_32 hm
    exact s_C_X9_spread_32 N hN (H_X9_spread_32 N n) n ih σ τ x1 x2 x3 x4 x5 x6 hI h0_32 hm
set_option maxHeartbeats 2000000 in
theorem s_B_X9_spread_0 (N : Nat) (hN : 4294967296 ≤ N) (σ : gI) (τ : gJ) (x1 : Int32) (x2 : Int32) (hI : IC σ) : okp (Kq σ τ (fun _ => True)) (B_X9_spread_0 N σ τ x1 x2) := by
  unfold B_X9_spread_0
  refine ok_nm (fun v_1 e_1 => ?_)
  refine ok_bd (s_B_J6_bitCount_0f7a4_0 N hN σ τ v_1 ((ks_rf σ).1.2 hI)) (fun r_2 σ_2 τ_2 hp_2 => ?_)
  have k_2 : KS σ σ_2 := ks_eq (ks_rf σ) hp_2.2.1
  have kj_2 : KJ τ τ_2 := kj_eq (kj_rf τ) hp_2.2.2
  refine ok_nm (fun v_3 e_3 => ?_)
  exact ok_mono (fun _ _ _ h9 => ⟨h9.1, ks_tr k_2 h9.2.1, kj_tr kj_2 h9.2.2⟩) (s_H_X9_spread_32 N hN N σ_2 τ_2 x1 x2 v_1 v_3 0 0 (k_2.1.2 hI) (by have : (0 : Int32).toInt = 0 := rfl; omega) (by have : (0 : Int32).toInt = 0 := rfl; omega))
set_option maxHeartbeats 2000000 in
theorem s_B_X9_outcome_0 (N : Nat) (hN : 4294967296 ≤ N) (σ : gI) (τ : gJ) (x1 : Int32) (hI : IC σ) : okp (Kq σ τ (fun _ => True)) (B_X9_outcome_0 N σ τ x1) := by
  unfold B_X9_outcome_0
  refine ok_ite (fun c_1 => ?_) (fun c_1 => ?_)
  · simp only [fa_lt, fa_le, fa_eq] at c_1
    exact ok_r ⟨trivial, (ks_rf σ), (kj_rf τ)⟩
  · simp only [fa_lt, fa_le, fa_eq] at c_1
    refine ok_ite (fun c_2 => ?_) (fun c_2 => ?_)
    · simp only [fa_lt, fa_le, fa_eq] at c_2
      refine ok_ck (by have : (0 : Int32).toInt = 0 := rfl; have : (4096 : Int32).toInt = 4096 := rfl; have := i32_rng x1; omega) (fun j_3 hj_3 lj_3 => ?_)
      refine ok_ite (fun c_3 => ?_) (fun c_3 => ?_)
      · simp only [fa_lt, fa_le, fa_eq] at c_3
        refine ok_bd (s_B_X9_go_0 N hN σ τ x1 ((ks_rf σ).1.2 hI)) (fun r_5 σ_5 τ_5 hp_5 => ?_)
        have k_5 : KS σ σ_5 := ks_tr (ks_rf σ) hp_5.2.1
        have kj_5 : KJ τ τ_5 := kj_tr (kj_rf τ) hp_5.2.2
        refine ok_bd (s_B_X9_spread_0 N hN σ_5 τ_5 x1 r_5 (k_5.1.2 hI)) (fun _ σ_6 τ_6 hp_6 => ?_)
        have k_6 : KS σ σ_6 := ks_tr k_5 hp_6.2.1
        have kj_6 : KJ τ τ_6 := kj_tr kj_5 hp_6.2.2
        exact ok_r ⟨trivial, k_6, kj_6⟩
      · simp only [fa_lt, fa_le, fa_eq] at c_3
        exact ok_r ⟨trivial, (ks_rf σ), (kj_rf τ)⟩
    · simp only [fa_lt, fa_le, fa_eq] at c_2
      exact ok_r ⟨trivial, (ks_rf σ), (kj_rf τ)⟩
set_option maxHeartbeats 2000000 in
theorem s_C_X11_firstGets_41 (N : Nat) (hN : 4294967296 ≤ N) (me_firstGets : gI → gJ → Int32 → Int32 → Int32 → Int32 → Option (Int32 × gI × gJ)) (nD : Nat) (hme : ∀ (σ : gI) (τ : gJ) (x1 : Int32) (x2 : Int32) (x3 : Int32) (x4 : Int32), IC σ → (x3.toInt < nD ∧ 0 < nD) → okp (Kq σ τ (fun a => a = 0 ∨ a = 1)) (me_firstGets σ τ x1 x2 x3 x4)) (rec_41 : gI → gJ → Int32 → Int32 → Int32 → Int32 → Int32 → Int32 → Option (Int32 × gI × gJ)) (n_41 : Nat) (hrec_41 : ∀ (σ : gI) (τ : gJ) (x1 : Int32) (x2 : Int32) (x3 : Int32) (x4 : Int32) (x5 : Int32) (x6 : Int32), IC σ → ((x3.toInt < nD + 1 ∧ 0 < nD + 1)) → (0 ≤ x6.toInt) → (x5 = 0 ∨ x5 = 1) → (1 ≤ x3.toInt) → (2147483647 - x6.toInt).toNat < n_41 → okp (Kq σ τ (fun a => a = 0 ∨ a = 1)) (rec_41 σ τ x1 x2 x3 x4 x5 x6)) (σ : gI) (τ : gJ) (x1 : Int32) (x2 : Int32) (x3 : Int32) (x4 : Int32) (x5 : Int32) (x6 : Int32) (hI : IC σ) (hD : (x3.toInt < nD + 1 ∧ 0 < nD + 1)) (h0_41 : 0 ≤ x6.toInt) (hm_41 : (2147483647 - x6.toInt).toNat < n_41 + 1) (hb5 : x5 = 0 ∨ x5 = 1) (h3 : 1 ≤ x3.toInt) : okp (Kq σ τ (fun a => a = 0 ∨ a = 1)) (C_X11_firstGets_41 me_firstGets N rec_41 σ τ x1 x2 x3 x4 x5 x6) := by
  unfold C_X11_firstGets_41
  refine ok_ite (fun c_1 => ?_) (fun c_1 => ?_)
  · simp only [fa_lt, fa_le, fa_eq] at c_1
    have b_2 : x5 = 0 ∨ x5 = 1 := hb5
    refine ok_cb b_2 ?_
    exact ok_r ⟨b_2, (ks_rf σ), (kj_rf τ)⟩
  · simp only [fa_lt, fa_le, fa_eq] at c_1
    refine ok_ite (fun c_3 => ?_) (fun c_3 => ?_)
    · simp only [fa_lt, fa_le, fa_eq] at c_3
      have b_4 : x5 = 0 ∨ x5 = 1 := hb5
      refine ok_cb b_4 ?_
      exact ok_r ⟨b_4, (ks_rf σ), (kj_rf τ)⟩
    · simp only [fa_lt, fa_le, fa_eq] at c_3
      refine ok_bd (s_B_X8_isFork_0 N hN σ τ x6 ((ks_rf σ).1.2 hI)) (fun r_5 σ_5 τ_5 hp_5 => ?_)
      have k_5 : KS σ σ_5 := ks_eq (ks_rf σ) hp_5.2.1
      have kj_5 : KJ τ τ_5 := kj_eq (kj_rf τ) hp_5.2.2
      refine ok_ite (fun c_5 => ?_) (fun c_5 => ?_)
      · simp only [fa_lt, fa_le, fa_eq] at c_5
        refine ok_nm (fun v_7 e_7 => ?_)
        exact ok_mono (fun _ _ _ h9 => ⟨h9.1, ks_tr k_5 h9.2.1, kj_tr kj_5 h9.2.2⟩) (hrec_41 σ_5 τ_5 x1 x2 x3 x4 x5 v_7 (k_5.1.2 hI) (by have : (0 : Int32).toInt = 0 := rfl; have : (1 : Int32).toInt = 1 := rfl; have : (3 : Int32).toInt = 3 := rfl; have : (6 : Int32).toInt = 6 := rfl; have := i32_rng (σ 3 6); have := i32_rng r_5; have := i32_rng x3; have := i32_rng x4; have := i32_rng x5; have := i32_rng x6; omega) (by have : (0 : Int32).toInt = 0 := rfl; have : (1 : Int32).toInt = 1 := rfl; have : (3 : Int32).toInt = 3 := rfl; have : (6 : Int32).toInt = 6 := rfl; have := i32_rng (σ 3 6); have := i32_rng r_5; have := i32_rng v_7; have := i32_rng x3; have := i32_rng x4; have := i32_rng x5; have := i32_rng x6; have u_v_7 : v_7.toInt = (x6).toInt + 1 := (by rw [e_7]; have q := ti_add (a := x6) (b := 1) (by rw [show (1 : Int32).toInt = 1 from rfl]; omega) (by rw [show (1 : Int32).toInt = 1 from rfl]; omega); rw [q, show (1 : Int32).toInt = 1 from rfl]); omega) hb5 (by have : (0 : Int32).toInt = 0 := rfl; have : (1 : Int32).toInt = 1 := rfl; have : (3 : Int32).toInt = 3 := rfl; have : (6 : Int32).toInt = 6 := rfl; have := i32_rng (σ 3 6); have := i32_rng r_5; have := i32_rng x3; have := i32_rng x4; have := i32_rng x5; have := i32_rng x6; omega) (by have : (0 : Int32).toInt = 0 := rfl; have : (1 : Int32).toInt = 1 := rfl; have : (3 : Int32).toInt = 3 := rfl; have : (6 : Int32).toInt = 6 := rfl; have := i32_rng (σ 3 6); have := i32_rng r_5; have := i32_rng v_7; have := i32_rng x3; have := i32_rng x4; have := i32_rng x5; have := i32_rng x6; have u_v_7 : v_7.toInt = (x6).toInt + 1 := (by rw [e_7]; have q := ti_add (a := x6) (b := 1) (by rw [show (1 : Int32).toInt = 1 from rfl]; omega) (by rw [show (1 : Int32).toInt = 1 from rfl]; omega); rw [q, show (1 : Int32).toInt = 1 from rfl]); omega))
      · simp only [fa_lt, fa_le, fa_eq] at c_5
        refine ok_ite (fun c_6 => ?_) (fun c_6 => ?_)
        · simp only [fa_lt, fa_le, fa_eq] at c_6
          refine ok_bd (hme σ_5 τ_5 (x1 ^^^ (1 <<< (x6 &&& 31))) x2 (x3 - 1) 1 (k_5.1.2 hI) (by have : (0 : Int32).toInt = 0 := rfl; have : (1 : Int32).toInt = 1 := rfl; have : (3 : Int32).toInt = 3 := rfl; have : (6 : Int32).toInt = 6 := rfl; have := i32_rng (σ 3 6); have := i32_rng r_5; have := i32_rng x3; have := i32_rng x4; have := i32_rng x5; have := i32_rng x6; have : (x3 - (1 : Int32)).toInt = x3.toInt - (1 : Int32).toInt := (ti_sub (by omega) (by omega)); omega)) (fun r_11 σ_11 τ_11 hp_11 => ?_)
          have k_11 : KS σ σ_11 := ks_tr k_5 hp_11.2.1
          have kj_11 : KJ τ τ_11 := kj_tr kj_5 hp_11.2.2
          refine ok_nm (fun v_12 e_12 => ?_)
          exact ok_mono (fun _ _ _ h9 => ⟨h9.1, ks_tr k_11 h9.2.1, kj_tr kj_11 h9.2.2⟩) (hrec_41 σ_11 τ_11 x1 x2 x3 x4 r_11 v_12 (k_11.1.2 hI) (by have : (0 : Int32).toInt = 0 := rfl; have : (1 : Int32).toInt = 1 := rfl; have : (3 : Int32).toInt = 3 := rfl; have : (6 : Int32).toInt = 6 := rfl; have := i32_rng (σ 3 6); have := i32_rng r_5; have := i32_rng x3; have := i32_rng x4; have := i32_rng x5; have := i32_rng x6; omega) (by have : (0 : Int32).toInt = 0 := rfl; have : (1 : Int32).toInt = 1 := rfl; have : (3 : Int32).toInt = 3 := rfl; have : (6 : Int32).toInt = 6 := rfl; have := i32_rng (σ 3 6); have := i32_rng r_5; have := i32_rng v_12; have := i32_rng x3; have := i32_rng x4; have := i32_rng x5; have := i32_rng x6; have u_v_12 : v_12.toInt = (x6).toInt + 1 := (by rw [e_12]; have q := ti_add (a := x6) (b := 1) (by rw [show (1 : Int32).toInt = 1 from rfl]; omega) (by rw [show (1 : Int32).toInt = 1 from rfl]; omega); rw [q, show (1 : Int32).toInt = 1 from rfl]); omega) hp_11.1 (by have : (0 : Int32).toInt = 0 := rfl; have : (1 : Int32).toInt = 1 := rfl; have : (3 : Int32).toInt = 3 := rfl; have : (6 : Int32).toInt = 6 := rfl; have := i32_rng (σ 3 6); have := i32_rng r_5; have := i32_rng x3; have := i32_rng x4; have := i32_rng x5; have := i32_rng x6; omega) (by have : (0 : Int32).toInt = 0 := rfl; have : (1 : Int32).toInt = 1 := rfl; have : (3 : Int32).toInt = 3 := rfl; have : (6 : Int32).toInt = 6 := rfl; have := i32_rng (σ 3 6); have := i32_rng r_5; have := i32_rng v_12; have := i32_rng x3; have := i32_rng x4; have := i32_rng x5; have := i32_rng x6; have u_v_12 : v_12.toInt = (x6).toInt + 1 := (by rw [e_12]; have q := ti_add (a := x6) (b := 1) (by rw [show (1 : Int32).toInt = 1 from rfl]; omega) (by rw [show (1 : Int32).toInt = 1 from rfl]; omega); rw [q, show (1 : Int32).toInt = 1 from rfl]); omega))
        · simp only [fa_lt, fa_le, fa_eq] at c_6
          refine ok_bd (hme σ_5 τ_5 (x1 ^^^ (1 <<< (x6 &&& 31))) x2 (x3 - 1) 0 (k_5.1.2 hI) (by have : (0 : Int32).toInt = 0 := rfl; have : (1 : Int32).toInt = 1 := rfl; have : (3 : Int32).toInt = 3 := rfl; have : (6 : Int32).toInt = 6 := rfl; have := i32_rng (σ 3 6); have := i32_rng r_5; have := i32_rng x3; have := i32_rng x4; have := i32_rng x5; have := i32_rng x6; have : (x3 - (1 : Int32)).toInt = x3.toInt - (1 : Int32).toInt := (ti_sub (by omega) (by omega)); omega)) (fun r_9 σ_9 τ_9 hp_9 => ?_)
          have k_9 : KS σ σ_9 := ks_tr k_5 hp_9.2.1
          have kj_9 : KJ τ τ_9 := kj_tr kj_5 hp_9.2.2
          refine ok_nm (fun v_10 e_10 => ?_)
          exact ok_mono (fun _ _ _ h9 => ⟨h9.1, ks_tr k_9 h9.2.1, kj_tr kj_9 h9.2.2⟩) (hrec_41 σ_9 τ_9 x1 x2 x3 x4 r_9 v_10 (k_9.1.2 hI) (by have : (0 : Int32).toInt = 0 := rfl; have : (1 : Int32).toInt = 1 := rfl; have : (3 : Int32).toInt = 3 := rfl; have : (6 : Int32).toInt = 6 := rfl; have := i32_rng (σ 3 6); have := i32_rng r_5; have := i32_rng x3; have := i32_rng x4; have := i32_rng x5; have := i32_rng x6; omega) (by have : (0 : Int32).toInt = 0 := rfl; have : (1 : Int32).toInt = 1 := rfl; have : (3 : Int32).toInt = 3 := rfl; have : (6 : Int32).toInt = 6 := rfl; have := i32_rng (σ 3 6); have := i32_rng r_5; have := i32_rng v_10; have := i32_rng x3; have := i32_rng x4; have := i32_rng x5; have := i32_rng x6; have u_v_10 : v_10.toInt = (x6).toInt + 1 := (by rw [e_10]; have q := ti_add (a := x6) (b := 1) (by rw [show (1 : Int32).toInt = 1 from rfl]; omega) (by rw [show (1 : Int32).toInt = 1 from rfl]; omega); rw [q, show (1 : Int32).toInt = 1 from rfl]); omega) hp_9.1 (by have : (0 : Int32).toInt = 0 := rfl; have : (1 : Int32).toInt = 1 := rfl; have : (3 : Int32).toInt = 3 := rfl; have : (6 : Int32).toInt = 6 := rfl; have := i32_rng (σ 3 6); have := i32_rng r_5; have := i32_rng x3; have := i32_rng x4; have := i32_rng x5; have := i32_rng x6; omega) (by have : (0 : Int32).toInt = 0 := rfl; have : (1 : Int32).toInt = 1 := rfl; have : (3 : Int32).toInt = 3 := rfl; have : (6 : Int32).toInt = 6 := rfl; have := i32_rng (σ 3 6); have := i32_rng r_5; have := i32_rng v_10; have := i32_rng x3; have := i32_rng x4; have := i32_rng x5; have := i32_rng x6; have u_v_10 : v_10.toInt = (x6).toInt + 1 := (by rw [e_10]; have q := ti_add (a := x6) (b := 1) (by rw [show (1 : Int32).toInt = 1 from rfl]; omega) (by rw [show (1 : Int32).toInt = 1 from rfl]; omega); rw [q, show (1 : Int32).toInt = 1 from rfl]); omega))
theorem s_H_X11_firstGets_41 (N : Nat) (hN : 4294967296 ≤ N) (me_firstGets : gI → gJ → Int32 → Int32 → Int32 → Int32 → Option (Int32 × gI × gJ)) (nD : Nat) (hme : ∀ (σ : gI) (τ : gJ) (x1 : Int32) (x2 : Int32) (x3 : Int32) (x4 : Int32), IC σ → (x3.toInt < nD ∧ 0 < nD) → okp (Kq σ τ (fun a => a = 0 ∨ a = 1)) (me_firstGets σ τ x1 x2 x3 x4)) : ∀ (n : Nat) (σ : gI) (τ : gJ) (x1 : Int32) (x2 : Int32) (x3 : Int32) (x4 : Int32) (x5 : Int32) (x6 : Int32), IC σ → ((x3.toInt < nD + 1 ∧ 0 < nD + 1)) → (0 ≤ x6.toInt) → (x5 = 0 ∨ x5 = 1) → (1 ≤ x3.toInt) → (2147483647 - x6.toInt).toNat < n → okp (Kq σ τ (fun a => a = 0 ∨ a = 1)) (H_X11_firstGets_41 me_firstGets N n σ τ x1 x2 x3 x4 x5 x6) := by
  intro n
  induction n with
  | zero => intro σ τ x1 x2 x3 x4 x5 x6 _ _ _ _ _ hm; exact absurd hm (Nat.not_lt_zero _)
  | succ n ih =>
    intro σ τ x1 x2 x3 x4 x5 x6 hI hD h0_41 hb5 h3 hm
    exact s_C_X11_firstGets_41 N hN me_firstGets nD hme (H_X11_firstGets_41 me_firstGets N n) n ih σ τ x1 x2 x3 x4 x5 x6 hI hD h0_41 hm hb5 h3
set_option maxHeartbeats 2000000 in
theorem s_B_X11_firstGets_0 (N : Nat) (hN : 4294967296 ≤ N) (me_firstGets : gI → gJ → Int32 → Int32 → Int32 → Int32 → Option (Int32 × gI × gJ)) (nD : Nat) (hme : ∀ (σ : gI) (τ : gJ) (x1 : Int32) (x2 : Int32) (x3 : Int32) (x4 : Int32), IC σ → (x3.toInt < nD ∧ 0 < nD) → okp (Kq σ τ (fun a => a = 0 ∨ a = 1)) (me_firstGets σ τ x1 x2 x3 x4)) (σ : gI) (τ : gJ) (x1 : Int32) (x2 : Int32) (x3 : Int32) (x4 : Int32) (hI : IC σ) (hD : (x3.toInt < nD + 1 ∧ 0 < nD + 1)) : okp (Kq σ τ (fun a => a = 0 ∨ a = 1)) (B_X11_firstGets_0 me_firstGets N σ τ x1 x2 x3 x4) := by
  unfold B_X11_firstGets_0
  refine ok_ite (fun c_1 => ?_) (fun c_1 => ?_)
  · simp only [fa_lt, fa_le, fa_eq] at c_1
    refine ok_ite (fun c_2 => ?_) (fun c_2 => ?_)
    · simp only [fa_lt, fa_le, fa_eq] at c_2
      refine ok_bd (hme σ τ x1 x2 (x3 - 1) 1 ((ks_rf σ).1.2 hI) (by have : (0 : Int32).toInt = 0 := rfl; have : (1 : Int32).toInt = 1 := rfl; have := i32_rng x3; have := i32_rng x4; have : (x3 - (1 : Int32)).toInt = x3.toInt - (1 : Int32).toInt := (ti_sub (by omega) (by omega)); omega)) (fun r_4 σ_4 τ_4 hp_4 => ?_)
      have k_4 : KS σ σ_4 := ks_tr (ks_rf σ) hp_4.2.1
      have kj_4 : KJ τ τ_4 := kj_tr (kj_rf τ) hp_4.2.2
      exact ok_mono (fun _ _ _ h9 => ⟨h9.1, ks_tr k_4 h9.2.1, kj_tr kj_4 h9.2.2⟩) (s_H_X11_firstGets_41 N hN me_firstGets nD hme N σ_4 τ_4 x1 x2 x3 x4 r_4 0 (k_4.1.2 hI) (by have : (0 : Int32).toInt = 0 := rfl; have : (1 : Int32).toInt = 1 := rfl; have := i32_rng x3; have := i32_rng x4; omega) (by have : (0 : Int32).toInt = 0 := rfl; have := i32_rng x3; have := i32_rng x4; omega) hp_4.1 (by have : (0 : Int32).toInt = 0 := rfl; have : (1 : Int32).toInt = 1 := rfl; have := i32_rng x3; have := i32_rng x4; omega) (by have : (0 : Int32).toInt = 0 := rfl; have := i32_rng x3; have := i32_rng x4; omega))
    · simp only [fa_lt, fa_le, fa_eq] at c_2
      refine ok_bd (hme σ τ x1 x2 (x3 - 1) 0 ((ks_rf σ).1.2 hI) (by have : (0 : Int32).toInt = 0 := rfl; have : (1 : Int32).toInt = 1 := rfl; have := i32_rng x3; have := i32_rng x4; have : (x3 - (1 : Int32)).toInt = x3.toInt - (1 : Int32).toInt := (ti_sub (by omega) (by omega)); omega)) (fun r_3 σ_3 τ_3 hp_3 => ?_)
      have k_3 : KS σ σ_3 := ks_tr (ks_rf σ) hp_3.2.1
      have kj_3 : KJ τ τ_3 := kj_tr (kj_rf τ) hp_3.2.2
      exact ok_mono (fun _ _ _ h9 => ⟨h9.1, ks_tr k_3 h9.2.1, kj_tr kj_3 h9.2.2⟩) (s_H_X11_firstGets_41 N hN me_firstGets nD hme N σ_3 τ_3 x1 x2 x3 x4 r_3 0 (k_3.1.2 hI) (by have : (0 : Int32).toInt = 0 := rfl; have : (1 : Int32).toInt = 1 := rfl; have := i32_rng x3; have := i32_rng x4; omega) (by have : (0 : Int32).toInt = 0 := rfl; have := i32_rng x3; have := i32_rng x4; omega) hp_3.1 (by have : (0 : Int32).toInt = 0 := rfl; have : (1 : Int32).toInt = 1 := rfl; have := i32_rng x3; have := i32_rng x4; omega) (by have : (0 : Int32).toInt = 0 := rfl; have := i32_rng x3; have := i32_rng x4; omega))
  · simp only [fa_lt, fa_le, fa_eq] at c_1
    refine ok_bd (s_B_X9_outcome_0 N hN σ τ x1 ((ks_rf σ).1.2 hI)) (fun r_5 σ_5 τ_5 hp_5 => ?_)
    have k_5 : KS σ σ_5 := ks_tr (ks_rf σ) hp_5.2.1
    have kj_5 : KJ τ τ_5 := kj_tr (kj_rf τ) hp_5.2.2
    refine ok_bd (s_B_X11_isIn_0 N hN σ_5 τ_5 r_5 x2 (k_5.1.2 hI)) (fun r_6 σ_6 τ_6 hp_6 => ?_)
    have k_6 : KS σ σ_6 := ks_eq k_5 hp_6.2.1
    have kj_6 : KJ τ τ_6 := kj_eq kj_5 hp_6.2.2
    have b_3 : r_6 = 0 ∨ r_6 = 1 := hp_6.1
    refine ok_cb b_3 ?_
    exact ok_r ⟨b_3, k_6, kj_6⟩
theorem s_R_X11_firstGets (N : Nat) (hN : 4294967296 ≤ N) : ∀ (D : Nat) (σ : gI) (τ : gJ) (x1 : Int32) (x2 : Int32) (x3 : Int32) (x4 : Int32), IC σ → (x3.toInt < D ∧ 0 < D) → okp (Kq σ τ (fun a => a = 0 ∨ a = 1)) (R_X11_firstGets N D σ τ x1 x2 x3 x4) := by
  intro D
  induction D with
  | zero => intro σ τ x1 x2 x3 x4 hI hD; exact absurd hD.2 (Nat.lt_irrefl _)
  | succ D ih =>
    intro σ τ x1 x2 x3 x4 hI hD
    exact s_B_X11_firstGets_0 N hN (R_X11_firstGets N D) D ih σ τ x1 x2 x3 x4 hI hD
set_option maxHeartbeats 2000000 in
theorem s_B_X11_duel_172 (N : Nat) (hN : 4294967296 ≤ N) (σ : gI) (τ : gJ) (x6 : Int32) (x7 : Int32) (hI : IC σ) : okp (Kq σ τ (fun _ => True)) (B_X11_duel_172 N σ τ x6 x7) := by
  unfold B_X11_duel_172
  refine ok_bd (s_B_X4_tell_0 N hN σ τ x6.toInt64 ((ks_rf σ).1.2 hI)) (fun _ σ_1 τ_1 hp_1 => ?_)
  have k_1 : KS σ σ_1 := ks_tr (ks_rf σ) hp_1.2.1
  have kj_1 : KJ τ τ_1 := kj_tr (kj_rf τ) hp_1.2.2
  refine ok_ite (fun c_1 => ?_) (fun c_1 => ?_)
  · simp only [fa_lt, fa_le, fa_eq] at c_1
    exact ok_r ⟨trivial, k_1, kj_1⟩
  · simp only [fa_lt, fa_le, fa_eq] at c_1
    exact ok_r ⟨trivial, k_1, kj_1⟩
set_option maxHeartbeats 2000000 in
theorem s_C_X11_duel_99 (N : Nat) (hN : 4294967296 ≤ N) (rec_99 : gI → gJ → Int32 → Int32 → Int32 → Int32 → Int32 → Option (Int32 × gI × gJ)) (n_99 : Nat) (hrec_99 : ∀ (σ : gI) (τ : gJ) (x4 : Int32) (x5 : Int32) (x6 : Int32) (x7 : Int32) (x8 : Int32), IC σ → (0 ≤ x8.toInt) → (0 ≤ x5.toInt ∧ x5.toInt ≤ 3) → (2147483647 - x8.toInt).toNat < n_99 → okp (Kq σ τ (fun _ => True)) (rec_99 σ τ x4 x5 x6 x7 x8)) (σ : gI) (τ : gJ) (x4 : Int32) (x5 : Int32) (x6 : Int32) (x7 : Int32) (x8 : Int32) (hI : IC σ) (h0_99 : 0 ≤ x8.toInt) (hm_99 : (2147483647 - x8.toInt).toNat < n_99 + 1) (h5 : 0 ≤ x5.toInt ∧ x5.toInt ≤ 3) : okp (Kq σ τ (fun _ => True)) (C_X11_duel_99 N rec_99 σ τ x4 x5 x6 x7 x8) := by
  unfold C_X11_duel_99
  refine ok_ite (fun c_1 => ?_) (fun c_1 => ?_)
  · simp only [fa_lt, fa_le, fa_eq] at c_1
    exact ok_mono (fun _ _ _ h9 => ⟨h9.1, ks_tr (ks_rf σ) h9.2.1, kj_tr (kj_rf τ) h9.2.2⟩) (s_B_X11_duel_172 N hN σ τ x6 x7 ((ks_rf σ).1.2 hI))
  · simp only [fa_lt, fa_le, fa_eq] at c_1
    refine ok_ite (fun c_2 => ?_) (fun c_2 => ?_)
    · simp only [fa_lt, fa_le, fa_eq] at c_2
      exact ok_mono (fun _ _ _ h9 => ⟨h9.1, ks_tr (ks_rf σ) h9.2.1, kj_tr (kj_rf τ) h9.2.2⟩) (s_B_X11_duel_172 N hN σ τ x6 x7 ((ks_rf σ).1.2 hI))
    · simp only [fa_lt, fa_le, fa_eq] at c_2
      refine ok_ite (fun c_3 => ?_) (fun c_3 => ?_)
      · simp only [fa_lt, fa_le, fa_eq] at c_3
        refine ok_bd (s_B_X8_isFork_0 N hN σ τ x8 ((ks_rf σ).1.2 hI)) (fun r_4 σ_4 τ_4 hp_4 => ?_)
        have k_4 : KS σ σ_4 := ks_eq (ks_rf σ) hp_4.2.1
        have kj_4 : KJ τ τ_4 := kj_eq (kj_rf τ) hp_4.2.2
        refine ok_ite (fun c_4 => ?_) (fun c_4 => ?_)
        · simp only [fa_lt, fa_le, fa_eq] at c_4
          refine ok_nm (fun v_6 e_6 => ?_)
          exact ok_mono (fun _ _ _ h9 => ⟨h9.1, ks_tr k_4 h9.2.1, kj_tr kj_4 h9.2.2⟩) (hrec_99 σ_4 τ_4 x4 x5 x6 x7 v_6 (k_4.1.2 hI) (by have : (0 : Int32).toInt = 0 := rfl; have : (1 : Int32).toInt = 1 := rfl; have : (3 : Int32).toInt = 3 := rfl; have : (6 : Int32).toInt = 6 := rfl; have := i32_rng (σ 3 6); have := i32_rng r_4; have := i32_rng v_6; have := i32_rng x5; have := i32_rng x7; have := i32_rng x8; have u_v_6 : v_6.toInt = (x8).toInt + 1 := (by rw [e_6]; have q := ti_add (a := x8) (b := 1) (by rw [show (1 : Int32).toInt = 1 from rfl]; omega) (by rw [show (1 : Int32).toInt = 1 from rfl]; omega); rw [q, show (1 : Int32).toInt = 1 from rfl]); omega) (by have : (0 : Int32).toInt = 0 := rfl; have : (3 : Int32).toInt = 3 := rfl; have : (6 : Int32).toInt = 6 := rfl; have := i32_rng (σ 3 6); have := i32_rng r_4; have := i32_rng x5; have := i32_rng x7; have := i32_rng x8; omega) (by have : (0 : Int32).toInt = 0 := rfl; have : (1 : Int32).toInt = 1 := rfl; have : (3 : Int32).toInt = 3 := rfl; have : (6 : Int32).toInt = 6 := rfl; have := i32_rng (σ 3 6); have := i32_rng r_4; have := i32_rng v_6; have := i32_rng x5; have := i32_rng x7; have := i32_rng x8; have u_v_6 : v_6.toInt = (x8).toInt + 1 := (by rw [e_6]; have q := ti_add (a := x8) (b := 1) (by rw [show (1 : Int32).toInt = 1 from rfl]; omega) (by rw [show (1 : Int32).toInt = 1 from rfl]; omega); rw [q, show (1 : Int32).toInt = 1 from rfl]); omega))
        · simp only [fa_lt, fa_le, fa_eq] at c_4
          refine ok_bd (s_R_X11_firstGets N hN 5 σ_4 τ_4 ((σ_4 30 7) ^^^ (1 <<< (x8 &&& 31))) x4 (x5 - 1) 0 (k_4.1.2 hI) (by have : (0 : Int32).toInt = 0 := rfl; have : (1 : Int32).toInt = 1 := rfl; have : (3 : Int32).toInt = 3 := rfl; have : (5 : Int32).toInt = 5 := rfl; have : (6 : Int32).toInt = 6 := rfl; have := i32_rng (σ 3 6); have := i32_rng r_4; have := i32_rng x5; have := i32_rng x7; have := i32_rng x8; have : (x5 - (1 : Int32)).toInt = x5.toInt - (1 : Int32).toInt := (ti_sub (by omega) (by omega)); omega)) (fun r_7 σ_7 τ_7 hp_7 => ?_)
          have k_7 : KS σ σ_7 := ks_tr k_4 hp_7.2.1
          have kj_7 : KJ τ τ_7 := kj_tr kj_4 hp_7.2.2
          refine ok_ite (fun c_5 => ?_) (fun c_5 => ?_)
          · simp only [fa_lt, fa_le, fa_eq] at c_5
            refine ok_nm (fun v_9 e_9 => ?_)
            exact ok_mono (fun _ _ _ h9 => ⟨h9.1, ks_tr k_7 h9.2.1, kj_tr kj_7 h9.2.2⟩) (hrec_99 σ_7 τ_7 x4 x5 x6 x7 v_9 (k_7.1.2 hI) (by have : (0 : Int32).toInt = 0 := rfl; have : (1 : Int32).toInt = 1 := rfl; have : (3 : Int32).toInt = 3 := rfl; have : (6 : Int32).toInt = 6 := rfl; have := i32_rng (σ 3 6); have := i32_rng r_4; have := i32_rng r_7; have := i32_rng v_9; have := i32_rng x5; have := i32_rng x7; have := i32_rng x8; have u_v_9 : v_9.toInt = (x8).toInt + 1 := (by rw [e_9]; have q := ti_add (a := x8) (b := 1) (by rw [show (1 : Int32).toInt = 1 from rfl]; omega) (by rw [show (1 : Int32).toInt = 1 from rfl]; omega); rw [q, show (1 : Int32).toInt = 1 from rfl]); omega) (by have : (0 : Int32).toInt = 0 := rfl; have : (3 : Int32).toInt = 3 := rfl; have : (6 : Int32).toInt = 6 := rfl; have := i32_rng (σ 3 6); have := i32_rng r_4; have := i32_rng r_7; have := i32_rng x5; have := i32_rng x7; have := i32_rng x8; omega) (by have : (0 : Int32).toInt = 0 := rfl; have : (1 : Int32).toInt = 1 := rfl; have : (3 : Int32).toInt = 3 := rfl; have : (6 : Int32).toInt = 6 := rfl; have := i32_rng (σ 3 6); have := i32_rng r_4; have := i32_rng r_7; have := i32_rng v_9; have := i32_rng x5; have := i32_rng x7; have := i32_rng x8; have u_v_9 : v_9.toInt = (x8).toInt + 1 := (by rw [e_9]; have q := ti_add (a := x8) (b := 1) (by rw [show (1 : Int32).toInt = 1 from rfl]; omega) (by rw [show (1 : Int32).toInt = 1 from rfl]; omega); rw [q, show (1 : Int32).toInt = 1 from rfl]); omega))
          · simp only [fa_lt, fa_le, fa_eq] at c_5
            refine ok_nm (fun v_10 e_10 => ?_)
            exact ok_mono (fun _ _ _ h9 => ⟨h9.1, ks_tr k_7 h9.2.1, kj_tr kj_7 h9.2.2⟩) (hrec_99 σ_7 τ_7 x4 x5 x8 1 v_10 (k_7.1.2 hI) (by have : (0 : Int32).toInt = 0 := rfl; have : (1 : Int32).toInt = 1 := rfl; have : (3 : Int32).toInt = 3 := rfl; have : (6 : Int32).toInt = 6 := rfl; have := i32_rng (σ 3 6); have := i32_rng r_4; have := i32_rng r_7; have := i32_rng v_10; have := i32_rng x5; have := i32_rng x7; have := i32_rng x8; have u_v_10 : v_10.toInt = (x8).toInt + 1 := (by rw [e_10]; have q := ti_add (a := x8) (b := 1) (by rw [show (1 : Int32).toInt = 1 from rfl]; omega) (by rw [show (1 : Int32).toInt = 1 from rfl]; omega); rw [q, show (1 : Int32).toInt = 1 from rfl]); omega) (by have : (0 : Int32).toInt = 0 := rfl; have : (3 : Int32).toInt = 3 := rfl; have : (6 : Int32).toInt = 6 := rfl; have := i32_rng (σ 3 6); have := i32_rng r_4; have := i32_rng r_7; have := i32_rng x5; have := i32_rng x7; have := i32_rng x8; omega) (by have : (0 : Int32).toInt = 0 := rfl; have : (1 : Int32).toInt = 1 := rfl; have : (3 : Int32).toInt = 3 := rfl; have : (6 : Int32).toInt = 6 := rfl; have := i32_rng (σ 3 6); have := i32_rng r_4; have := i32_rng r_7; have := i32_rng v_10; have := i32_rng x5; have := i32_rng x7; have := i32_rng x8; have u_v_10 : v_10.toInt = (x8).toInt + 1 := (by rw [e_10]; have q := ti_add (a := x8) (b := 1) (by rw [show (1 : Int32).toInt = 1 from rfl]; omega) (by rw [show (1 : Int32).toInt = 1 from rfl]; omega); rw [q, show (1 : Int32).toInt = 1 from rfl]); omega))
      · simp only [fa_lt, fa_le, fa_eq] at c_3
        exact ok_mono (fun _ _ _ h9 => ⟨h9.1, ks_tr (ks_rf σ) h9.2.1, kj_tr (kj_rf τ) h9.2.2⟩) (s_B_X11_duel_172 N hN σ τ x6 x7 ((ks_rf σ).1.2 hI))
theorem s_H_X11_duel_99 (N : Nat) (hN : 4294967296 ≤ N) : ∀ (n : Nat) (σ : gI) (τ : gJ) (x4 : Int32) (x5 : Int32) (x6 : Int32) (x7 : Int32) (x8 : Int32), IC σ → (0 ≤ x8.toInt) → (0 ≤ x5.toInt ∧ x5.toInt ≤ 3) → (2147483647 - x8.toInt).toNat < n → okp (Kq σ τ (fun _ => True)) (H_X11_duel_99 N n σ τ x4 x5 x6 x7 x8) := by
  intro n
  induction n with
  | zero => intro σ τ x4 x5 x6 x7 x8 _ _ _ hm; exact absurd hm (Nat.not_lt_zero _)
  | succ n ih =>
    intro σ τ x4 x5 x6 x7 x8 hI h0_99 h5 hm
    exact s_C_X11_duel_99 N hN (H_X11_duel_99 N n) n ih σ τ x4 x5 x6 x7 x8 hI h0_99 hm h5
set_option maxHeartbeats 2000000 in
theorem s_B_X11_duel_0 (N : Nat) (hN : 4294967296 ≤ N) (σ : gI) (τ : gJ) (x1 : Int32) (x2 : Int32) (x3 : Int32) (x4 : Int32) (x5 : Int32) (hI : IC σ) : okp (Kq σ τ (fun _ => True)) (B_X11_duel_0 N σ τ x1 x2 x3 x4 x5) := by
  unfold B_X11_duel_0
  refine ok_bd (s_B_X8_has_0 N hN σ τ x1 ((ks_rf σ).1.2 hI)) (fun r_1 σ_1 τ_1 hp_1 => ?_)
  have k_1 : KS σ σ_1 := ks_eq (ks_rf σ) hp_1.2.1
  have kj_1 : KJ τ τ_1 := kj_eq (kj_rf τ) hp_1.2.2
  refine ok_ite (fun c_1 => ?_) (fun c_1 => ?_)
  · simp only [fa_lt, fa_le, fa_eq] at c_1
    exact ok_r ⟨trivial, k_1, kj_1⟩
  · simp only [fa_lt, fa_le, fa_eq] at c_1
    refine ok_bd (s_B_X11_isLoad_0 N hN σ_1 τ_1 x2 x3 (k_1.1.2 hI)) (fun r_3 σ_3 τ_3 hp_3 => ?_)
    have k_3 : KS σ σ_3 := ks_eq k_1 hp_3.2.1
    have kj_3 : KJ τ τ_3 := kj_eq kj_1 hp_3.2.2
    refine ok_ite (fun c_2 => ?_) (fun c_2 => ?_)
    · simp only [fa_lt, fa_le, fa_eq] at c_2
      exact ok_r ⟨trivial, k_3, kj_3⟩
    · simp only [fa_lt, fa_le, fa_eq] at c_2
      refine ok_bd (s_B_X8_isKitchen_0 N hN σ_3 τ_3 x4 (k_3.1.2 hI)) (fun r_5 σ_5 τ_5 hp_5 => ?_)
      have k_5 : KS σ σ_5 := ks_eq k_3 hp_5.2.1
      have kj_5 : KJ τ τ_5 := kj_eq kj_3 hp_5.2.2
      refine ok_ite (fun c_3 => ?_) (fun c_3 => ?_)
      · simp only [fa_lt, fa_le, fa_eq] at c_3
        exact ok_r ⟨trivial, k_5, kj_5⟩
      · simp only [fa_lt, fa_le, fa_eq] at c_3
        refine ok_ite (fun c_4 => ?_) (fun c_4 => ?_)
        · simp only [fa_lt, fa_le, fa_eq] at c_4
          exact ok_r ⟨trivial, k_5, kj_5⟩
        · simp only [fa_lt, fa_le, fa_eq] at c_4
          refine ok_ite (fun c_5 => ?_) (fun c_5 => ?_)
          · simp only [fa_lt, fa_le, fa_eq] at c_5
            refine ok_bd (s_B_X9_thinkOf_0 N hN σ_5 τ_5 x1 x2 x3 0 (σ_5 30 8) (k_5.1.2 hI)) (fun _ σ_9 τ_9 hp_9 => ?_)
            have k_9 : KS σ σ_9 := ks_tr k_5 hp_9.2.1
            have kj_9 : KJ τ τ_9 := kj_tr kj_5 hp_9.2.2
            refine ok_bd (s_B_X9_forgetSets_0 N hN σ_9 τ_9 (k_9.1.2 hI)) (fun _ σ_10 τ_10 hp_10 => ?_)
            have k_10 : KS σ σ_10 := ks_tr k_9 hp_10.2.1
            have kj_10 : KJ τ τ_10 := kj_tr kj_9 hp_10.2.2
            refine ok_bd (s_R_X11_firstGets N hN 5 σ_10 τ_10 (σ_10 30 7) x4 (imax 0 (x5 - 1)) 0 (k_10.1.2 hI) (by have : (0 : Int32).toInt = 0 := rfl; have : (1 : Int32).toInt = 1 := rfl; have : (3 : Int32).toInt = 3 := rfl; have : (5 : Int32).toInt = 5 := rfl; have := imax_c 0 (x5 - 1); have := i32_rng r_1; have := i32_rng r_3; have := i32_rng r_5; have := i32_rng x5; have : (x5 - (1 : Int32)).toInt = x5.toInt - (1 : Int32).toInt := (ti_sub (by omega) (by omega)); omega)) (fun r_11 σ_11 τ_11 hp_11 => ?_)
            have k_11 : KS σ σ_11 := ks_tr k_10 hp_11.2.1
            have kj_11 : KJ τ τ_11 := kj_tr kj_10 hp_11.2.2
            exact ok_mono (fun _ _ _ h9 => ⟨h9.1, ks_tr k_11 h9.2.1, kj_tr kj_11 h9.2.2⟩) (s_H_X11_duel_99 N hN N σ_11 τ_11 x4 x5 (-1) r_11 0 (k_11.1.2 hI) (by have : (0 : Int32).toInt = 0 := rfl; have : (3 : Int32).toInt = 3 := rfl; have := i32_rng r_1; have := i32_rng r_3; have := i32_rng r_5; have := i32_rng x5; omega) (by have : (0 : Int32).toInt = 0 := rfl; have : (3 : Int32).toInt = 3 := rfl; have := i32_rng r_1; have := i32_rng r_3; have := i32_rng r_5; have := i32_rng x5; omega) (by have : (0 : Int32).toInt = 0 := rfl; have : (3 : Int32).toInt = 3 := rfl; have := i32_rng r_1; have := i32_rng r_3; have := i32_rng r_5; have := i32_rng x5; omega))
          · simp only [fa_lt, fa_le, fa_eq] at c_5
            exact ok_r ⟨trivial, k_5, kj_5⟩
set_option maxHeartbeats 2000000 in
theorem s_B_X11_end_0 (N : Nat) (hN : 4294967296 ≤ N) (σ : gI) (τ : gJ) (x1 : Int32) (hI : IC σ) : okp (Kq0 σ τ (fun a => a = 0 ∨ a = 1)) (B_X11_end_0 N σ τ x1) := by
  unfold B_X11_end_0
  refine ok_bd (s_B_X7_cut_0 N hN σ τ x1 ((k0_rf σ).2 hI)) (fun r_1 σ_1 τ_1 hp_1 => ?_)
  have k_1 : K0 σ σ_1 := k0_tr (k0_rf σ) hp_1.2.1
  have kj_1 : KJ τ τ_1 := kj_tr (kj_rf τ) hp_1.2.2
  have b_1 : r_1 = 0 ∨ r_1 = 1 := hp_1.1
  refine ok_cb b_1 ?_
  exact ok_r ⟨b_1, k_1, kj_1⟩
set_option maxHeartbeats 2000000 in
theorem s_B_X11_entry_0 (N : Nat) (hN : 4294967296 ≤ N) (σ : gI) (τ : gJ) (x0 : Int32) (x1 : Int32) (hI : IC σ) : okp (Kqe σ τ (fun _ => True)) (B_X11_entry_0 N σ τ x0 x1) := by
  unfold B_X11_entry_0
  refine ok_ite (fun c_1 => ?_) (fun c_1 => ?_)
  · simp only [fa_lt, fa_le, fa_eq] at c_1
    refine ok_nm (fun v_4 e_4 => ?_)
    exact ok_r ⟨trivial, (Eq.refl σ), (Eq.refl τ)⟩
  · simp only [fa_lt, fa_le, fa_eq] at c_1
    refine ok_ite (fun c_2 => ?_) (fun c_2 => ?_)
    · simp only [fa_lt, fa_le, fa_eq] at c_2
      refine ok_nm (fun v_3 e_3 => ?_)
      exact ok_r ⟨trivial, (Eq.refl σ), (Eq.refl τ)⟩
    · simp only [fa_lt, fa_le, fa_eq] at c_2
      exact ok_r ⟨trivial, (Eq.refl σ), (Eq.refl τ)⟩
set_option maxHeartbeats 2000000 in
theorem s_B_X11_fewestTurns_89 (N : Nat) (hN : 4294967296 ≤ N) (rec_21 : gI → gJ → Int32 → Int32 → Int32 → Int32 → Int32 → Int32 → Option (Int32 × gI × gJ)) (n_21 : Nat) (hrec_21 : ∀ (σ : gI) (τ : gJ) (x1 : Int32) (x2 : Int32) (x3 : Int32) (x4 : Int32) (x5 : Int32) (x6 : Int32), IC σ → (0 ≤ x6.toInt) → (2147483647 - x6.toInt).toNat < n_21 → okp (Kq σ τ (fun _ => True)) (rec_21 σ τ x1 x2 x3 x4 x5 x6)) (σ : gI) (τ : gJ) (x1 : Int32) (x5 : Int32) (x6 : Int32) (x7 : Int32) (x8 : Int32) (hI : IC σ) (h0_21 : 0 ≤ x6.toInt) (hm_21 : (2147483647 - x6.toInt).toNat < n_21 + 1) (hlt_21 : x6.toInt < 2147483647) : okp (Kq σ τ (fun _ => True)) (B_X11_fewestTurns_89 N rec_21 σ τ x1 x5 x6 x7 x8) := by
  unfold B_X11_fewestTurns_89
  refine ok_bd (s_B_X11_minutesOf_0 N hN σ τ x8 ((ks_rf σ).1.2 hI)) (fun r_1 σ_1 τ_1 hp_1 => ?_)
  have k_1 : KS σ σ_1 := ks_eq (ks_rf σ) hp_1.2.1
  have kj_1 : KJ τ τ_1 := kj_eq (kj_rf τ) hp_1.2.2
  refine ok_bd (s_B_X8_nextSet_0 N hN σ_1 τ_1 x5 (k_1.1.2 hI)) (fun r_2 σ_2 τ_2 hp_2 => ?_)
  have k_2 : KS σ σ_2 := ks_eq k_1 hp_2.2.1
  have kj_2 : KJ τ τ_2 := kj_eq kj_1 hp_2.2.2
  refine ok_nm (fun v_3 e_3 => ?_)
  exact ok_mono (fun _ _ _ h9 => ⟨h9.1, ks_tr k_2 h9.2.1, kj_tr kj_2 h9.2.2⟩) (hrec_21 σ_2 τ_2 x1 x7 x5 r_1 r_2 v_3 (k_2.1.2 hI) (by have : (0 : Int32).toInt = 0 := rfl; have : (1 : Int32).toInt = 1 := rfl; have := i32_rng v_3; have := i32_rng x6; have u_v_3 : v_3.toInt = (x6).toInt + 1 := (by rw [e_3]; have q := ti_add (a := x6) (b := 1) (by rw [show (1 : Int32).toInt = 1 from rfl]; omega) (by rw [show (1 : Int32).toInt = 1 from rfl]; omega); rw [q, show (1 : Int32).toInt = 1 from rfl]); omega) (by have : (1 : Int32).toInt = 1 := rfl; have := i32_rng v_3; have := i32_rng x6; have u_v_3 : v_3.toInt = (x6).toInt + 1 := (by rw [e_3]; have q := ti_add (a := x6) (b := 1) (by rw [show (1 : Int32).toInt = 1 from rfl]; omega) (by rw [show (1 : Int32).toInt = 1 from rfl]; omega); rw [q, show (1 : Int32).toInt = 1 from rfl]); omega))
set_option maxHeartbeats 2000000 in
theorem s_B_X11_fewestTurns_67 (N : Nat) (hN : 4294967296 ≤ N) (rec_21 : gI → gJ → Int32 → Int32 → Int32 → Int32 → Int32 → Int32 → Option (Int32 × gI × gJ)) (n_21 : Nat) (hrec_21 : ∀ (σ : gI) (τ : gJ) (x1 : Int32) (x2 : Int32) (x3 : Int32) (x4 : Int32) (x5 : Int32) (x6 : Int32), IC σ → (0 ≤ x6.toInt) → (2147483647 - x6.toInt).toNat < n_21 → okp (Kq σ τ (fun _ => True)) (rec_21 σ τ x1 x2 x3 x4 x5 x6)) (σ : gI) (τ : gJ) (x1 : Int32) (x2 : Int32) (x3 : Int32) (x4 : Int32) (x5 : Int32) (x6 : Int32) (x7 : Int32) (y0 : Int32) (hI : IC σ) (h0_21 : 0 ≤ x6.toInt) (hm_21 : (2147483647 - x6.toInt).toNat < n_21 + 1) (hlt_21 : x6.toInt < 2147483647) : okp (Kq σ τ (fun _ => True)) (B_X11_fewestTurns_67 N rec_21 σ τ x1 x2 x3 x4 x5 x6 x7 y0) := by
  unfold B_X11_fewestTurns_67
  refine ok_ite (fun c_1 => ?_) (fun c_1 => ?_)
  · simp only [fa_lt, fa_le, fa_eq] at c_1
    refine ok_bd (s_B_X8_nextSet_0 N hN σ τ x5 ((ks_rf σ).1.2 hI)) (fun r_2 σ_2 τ_2 hp_2 => ?_)
    have k_2 : KS σ σ_2 := ks_eq (ks_rf σ) hp_2.2.1
    have kj_2 : KJ τ τ_2 := kj_eq (kj_rf τ) hp_2.2.2
    refine ok_nm (fun v_3 e_3 => ?_)
    exact ok_mono (fun _ _ _ h9 => ⟨h9.1, ks_tr k_2 h9.2.1, kj_tr kj_2 h9.2.2⟩) (hrec_21 σ_2 τ_2 x1 x2 x3 x4 r_2 v_3 (k_2.1.2 hI) (by have : (-1 : Int32).toInt = -1 := rfl; have : (0 : Int32).toInt = 0 := rfl; have : (1 : Int32).toInt = 1 := rfl; have := i32_rng v_3; have := i32_rng x6; have := i32_rng y0; have u_v_3 : v_3.toInt = (x6).toInt + 1 := (by rw [e_3]; have q := ti_add (a := x6) (b := 1) (by rw [show (1 : Int32).toInt = 1 from rfl]; omega) (by rw [show (1 : Int32).toInt = 1 from rfl]; omega); rw [q, show (1 : Int32).toInt = 1 from rfl]); omega) (by have : (-1 : Int32).toInt = -1 := rfl; have : (1 : Int32).toInt = 1 := rfl; have := i32_rng v_3; have := i32_rng x6; have := i32_rng y0; have u_v_3 : v_3.toInt = (x6).toInt + 1 := (by rw [e_3]; have q := ti_add (a := x6) (b := 1) (by rw [show (1 : Int32).toInt = 1 from rfl]; omega) (by rw [show (1 : Int32).toInt = 1 from rfl]; omega); rw [q, show (1 : Int32).toInt = 1 from rfl]); omega))
  · simp only [fa_lt, fa_le, fa_eq] at c_1
    refine ok_ite (fun c_2 => ?_) (fun c_2 => ?_)
    · simp only [fa_lt, fa_le, fa_eq] at c_2
      exact ok_mono (fun _ _ _ h9 => ⟨h9.1, ks_tr (ks_rf σ) h9.2.1, kj_tr (kj_rf τ) h9.2.2⟩) (s_B_X11_fewestTurns_89 N hN rec_21 n_21 hrec_21 σ τ x1 x5 x6 x7 y0 ((ks_rf σ).1.2 hI) (by have : (-1 : Int32).toInt = -1 := rfl; have : (0 : Int32).toInt = 0 := rfl; have := i32_rng x1; have := i32_rng x6; have := i32_rng y0; omega) (by have : (-1 : Int32).toInt = -1 := rfl; have : (1 : Int32).toInt = 1 := rfl; have := i32_rng x1; have := i32_rng x6; have := i32_rng y0; omega) (by have : (-1 : Int32).toInt = -1 := rfl; have := i32_rng x1; have := i32_rng x6; have := i32_rng y0; omega))
    · simp only [fa_lt, fa_le, fa_eq] at c_2
      refine ok_bd (s_B_X11_isIn_0 N hN σ τ y0 x1 ((ks_rf σ).1.2 hI)) (fun r_5 σ_5 τ_5 hp_5 => ?_)
      have k_5 : KS σ σ_5 := ks_eq (ks_rf σ) hp_5.2.1
      have kj_5 : KJ τ τ_5 := kj_eq (kj_rf τ) hp_5.2.2
      refine ok_ite (fun c_3 => ?_) (fun c_3 => ?_)
      · simp only [fa_lt, fa_le, fa_eq] at c_3
        refine ok_bd (s_B_X8_nextSet_0 N hN σ_5 τ_5 x5 (k_5.1.2 hI)) (fun r_7 σ_7 τ_7 hp_7 => ?_)
        have k_7 : KS σ σ_7 := ks_eq k_5 hp_7.2.1
        have kj_7 : KJ τ τ_7 := kj_eq kj_5 hp_7.2.2
        refine ok_nm (fun v_8 e_8 => ?_)
        exact ok_mono (fun _ _ _ h9 => ⟨h9.1, ks_tr k_7 h9.2.1, kj_tr kj_7 h9.2.2⟩) (hrec_21 σ_7 τ_7 x1 x2 x3 x4 r_7 v_8 (k_7.1.2 hI) (by have : (-1 : Int32).toInt = -1 := rfl; have : (0 : Int32).toInt = 0 := rfl; have : (1 : Int32).toInt = 1 := rfl; have := i32_rng r_5; have := i32_rng v_8; have := i32_rng x1; have := i32_rng x6; have := i32_rng y0; have u_v_8 : v_8.toInt = (x6).toInt + 1 := (by rw [e_8]; have q := ti_add (a := x6) (b := 1) (by rw [show (1 : Int32).toInt = 1 from rfl]; omega) (by rw [show (1 : Int32).toInt = 1 from rfl]; omega); rw [q, show (1 : Int32).toInt = 1 from rfl]); omega) (by have : (-1 : Int32).toInt = -1 := rfl; have : (0 : Int32).toInt = 0 := rfl; have : (1 : Int32).toInt = 1 := rfl; have := i32_rng r_5; have := i32_rng v_8; have := i32_rng x1; have := i32_rng x6; have := i32_rng y0; have u_v_8 : v_8.toInt = (x6).toInt + 1 := (by rw [e_8]; have q := ti_add (a := x6) (b := 1) (by rw [show (1 : Int32).toInt = 1 from rfl]; omega) (by rw [show (1 : Int32).toInt = 1 from rfl]; omega); rw [q, show (1 : Int32).toInt = 1 from rfl]); omega))
      · simp only [fa_lt, fa_le, fa_eq] at c_3
        exact ok_mono (fun _ _ _ h9 => ⟨h9.1, ks_tr k_5 h9.2.1, kj_tr kj_5 h9.2.2⟩) (s_B_X11_fewestTurns_89 N hN rec_21 n_21 hrec_21 σ_5 τ_5 x1 x5 x6 x7 y0 (k_5.1.2 hI) (by have : (-1 : Int32).toInt = -1 := rfl; have : (0 : Int32).toInt = 0 := rfl; have := i32_rng r_5; have := i32_rng x1; have := i32_rng x6; have := i32_rng y0; omega) (by have : (-1 : Int32).toInt = -1 := rfl; have : (0 : Int32).toInt = 0 := rfl; have : (1 : Int32).toInt = 1 := rfl; have := i32_rng r_5; have := i32_rng x1; have := i32_rng x6; have := i32_rng y0; omega) (by have : (-1 : Int32).toInt = -1 := rfl; have : (0 : Int32).toInt = 0 := rfl; have := i32_rng r_5; have := i32_rng x1; have := i32_rng x6; have := i32_rng y0; omega))
set_option maxHeartbeats 2000000 in
theorem s_C_X11_fewestTurns_21 (N : Nat) (hN : 4294967296 ≤ N) (rec_21 : gI → gJ → Int32 → Int32 → Int32 → Int32 → Int32 → Int32 → Option (Int32 × gI × gJ)) (n_21 : Nat) (hrec_21 : ∀ (σ : gI) (τ : gJ) (x1 : Int32) (x2 : Int32) (x3 : Int32) (x4 : Int32) (x5 : Int32) (x6 : Int32), IC σ → (0 ≤ x6.toInt) → (2147483647 - x6.toInt).toNat < n_21 → okp (Kq σ τ (fun _ => True)) (rec_21 σ τ x1 x2 x3 x4 x5 x6)) (σ : gI) (τ : gJ) (x1 : Int32) (x2 : Int32) (x3 : Int32) (x4 : Int32) (x5 : Int32) (x6 : Int32) (hI : IC σ) (h0_21 : 0 ≤ x6.toInt) (hm_21 : (2147483647 - x6.toInt).toNat < n_21 + 1) : okp (Kq σ τ (fun _ => True)) (C_X11_fewestTurns_21 N rec_21 σ τ x1 x2 x3 x4 x5 x6) := by
  unfold C_X11_fewestTurns_21
  refine ok_ite (fun c_1 => ?_) (fun c_1 => ?_)
  · simp only [fa_lt, fa_le, fa_eq] at c_1
    refine ok_ite (fun c_2 => ?_) (fun c_2 => ?_)
    · simp only [fa_lt, fa_le, fa_eq] at c_2
      exact ok_r ⟨trivial, (ks_rf σ), (kj_rf τ)⟩
    · simp only [fa_lt, fa_le, fa_eq] at c_2
      refine ok_bd (s_B_X4_tell__0 N hN σ τ x3.toInt64 x4.toInt64 ((ks_rf σ).1.2 hI)) (fun _ σ_3 τ_3 hp_3 => ?_)
      have k_3 : KS σ σ_3 := ks_tr (ks_rf σ) hp_3.2.1
      have kj_3 : KJ τ τ_3 := kj_tr (kj_rf τ) hp_3.2.2
      exact ok_r ⟨trivial, k_3, kj_3⟩
  · simp only [fa_lt, fa_le, fa_eq] at c_1
    refine ok_bd (s_B_J6_bitCount_0f7a4_0 N hN σ τ x5 ((ks_rf σ).1.2 hI)) (fun r_4 σ_4 τ_4 hp_4 => ?_)
    have k_4 : KS σ σ_4 := ks_eq (ks_rf σ) hp_4.2.1
    have kj_4 : KJ τ τ_4 := kj_eq (kj_rf τ) hp_4.2.2
    refine ok_ite (fun c_3 => ?_) (fun c_3 => ?_)
    · simp only [fa_lt, fa_le, fa_eq] at c_3
      exact ok_mono (fun _ _ _ h9 => ⟨h9.1, ks_tr k_4 h9.2.1, kj_tr kj_4 h9.2.2⟩) (s_B_X11_fewestTurns_67 N hN rec_21 n_21 hrec_21 σ_4 τ_4 x1 x2 x3 x4 x5 x6 r_4 (-1) (k_4.1.2 hI) (by have : (0 : Int32).toInt = 0 := rfl; have : (3 : Int32).toInt = 3 := rfl; have : (8 : Int32).toInt = 8 := rfl; have := i32_rng (σ 3 8); have := i32_rng r_4; have := i32_rng x2; have := i32_rng x6; omega) (by have : (1 : Int32).toInt = 1 := rfl; have : (3 : Int32).toInt = 3 := rfl; have : (8 : Int32).toInt = 8 := rfl; have := i32_rng (σ 3 8); have := i32_rng r_4; have := i32_rng x2; have := i32_rng x6; omega) (by have : (3 : Int32).toInt = 3 := rfl; have : (8 : Int32).toInt = 8 := rfl; have := i32_rng (σ 3 8); have := i32_rng r_4; have := i32_rng x2; have := i32_rng x6; omega))
    · simp only [fa_lt, fa_le, fa_eq] at c_3
      refine ok_bd (s_B_X9_outcome_0 N hN σ_4 τ_4 ((σ_4 30 7) ^^^ x5) (k_4.1.2 hI)) (fun r_6 σ_6 τ_6 hp_6 => ?_)
      have k_6 : KS σ σ_6 := ks_tr k_4 hp_6.2.1
      have kj_6 : KJ τ τ_6 := kj_tr kj_4 hp_6.2.2
      exact ok_mono (fun _ _ _ h9 => ⟨h9.1, ks_tr k_6 h9.2.1, kj_tr kj_6 h9.2.2⟩) (s_B_X11_fewestTurns_67 N hN rec_21 n_21 hrec_21 σ_6 τ_6 x1 x2 x3 x4 x5 x6 r_4 r_6 (k_6.1.2 hI) (by have : (0 : Int32).toInt = 0 := rfl; have : (3 : Int32).toInt = 3 := rfl; have : (8 : Int32).toInt = 8 := rfl; have := i32_rng (σ 3 8); have := i32_rng r_4; have := i32_rng x2; have := i32_rng x6; omega) (by have : (1 : Int32).toInt = 1 := rfl; have : (3 : Int32).toInt = 3 := rfl; have : (8 : Int32).toInt = 8 := rfl; have := i32_rng (σ 3 8); have := i32_rng r_4; have := i32_rng x2; have := i32_rng x6; omega) (by have : (3 : Int32).toInt = 3 := rfl; have : (8 : Int32).toInt = 8 := rfl; have := i32_rng (σ 3 8); have := i32_rng r_4; have := i32_rng x2; have := i32_rng x6; omega))
theorem s_H_X11_fewestTurns_21 (N : Nat) (hN : 4294967296 ≤ N) : ∀ (n : Nat) (σ : gI) (τ : gJ) (x1 : Int32) (x2 : Int32) (x3 : Int32) (x4 : Int32) (x5 : Int32) (x6 : Int32), IC σ → (0 ≤ x6.toInt) → (2147483647 - x6.toInt).toNat < n → okp (Kq σ τ (fun _ => True)) (H_X11_fewestTurns_21 N n σ τ x1 x2 x3 x4 x5 x6) := by
  intro n
  induction n with
  | zero => intro σ τ x1 x2 x3 x4 x5 x6 _ _ hm; exact absurd hm (Nat.not_lt_zero _)
  | succ n ih =>
    intro σ τ x1 x2 x3 x4 x5 x6 hI h0_21 hm
    exact s_C_X11_fewestTurns_21 N hN (H_X11_fewestTurns_21 N n) n ih σ τ x1 x2 x3 x4 x5 x6 hI h0_21 hm
set_option maxHeartbeats 2000000 in
theorem s_B_X11_fewestTurns_0 (N : Nat) (hN : 4294967296 ≤ N) (σ : gI) (τ : gJ) (x1 : Int32) (hI : IC σ) : okp (Kq σ τ (fun _ => True)) (B_X11_fewestTurns_0 N σ τ x1) := by
  unfold B_X11_fewestTurns_0
  refine ok_bd (s_B_X9_forgetSets_0 N hN σ τ ((ks_rf σ).1.2 hI)) (fun _ σ_1 τ_1 hp_1 => ?_)
  have k_1 : KS σ σ_1 := ks_tr (ks_rf σ) hp_1.2.1
  have kj_1 : KJ τ τ_1 := kj_tr (kj_rf τ) hp_1.2.2
  exact ok_mono (fun _ _ _ h9 => ⟨h9.1, ks_tr k_1 h9.2.1, kj_tr kj_1 h9.2.2⟩) (s_H_X11_fewestTurns_21 N hN N σ_1 τ_1 x1 13 (-1) 0 0 0 (k_1.1.2 hI) (by have : (0 : Int32).toInt = 0 := rfl; omega) (by have : (0 : Int32).toInt = 0 := rfl; omega))
set_option maxHeartbeats 2000000 in
theorem s_B_X9_setFitting_0 (N : Nat) (hN : 4294967296 ≤ N) (σ : gI) (τ : gJ) (x1 : Int32) (x2 : Int32) (hI : IC σ) (hb2 : x2 = 0 ∨ x2 = 1) : okp (Kq σ τ (fun _ => True)) (B_X9_setFitting_0 N σ τ x1 x2) := by
  unfold B_X9_setFitting_0
  refine ok_ite (fun c_1 => ?_) (fun c_1 => ?_)
  · simp only [fa_lt, fa_le, fa_eq] at c_1
    exact ok_r ⟨trivial, (ks_rf σ), (kj_rf τ)⟩
  · simp only [fa_lt, fa_le, fa_eq] at c_1
    refine ok_ite (fun c_2 => ?_) (fun c_2 => ?_)
    · simp only [fa_lt, fa_le, fa_eq] at c_2
      exact ok_r ⟨trivial, (ks_rf σ), (kj_rf τ)⟩
    · simp only [fa_lt, fa_le, fa_eq] at c_2
      refine ok_ck (by have : (0 : Int32).toInt = 0 := rfl; have : (4096 : Int32).toInt = 4096 := rfl; have := i32_rng x1; have := i32_rng x2; omega) (fun j_3 hj_3 lj_3 => ?_)
      have b_3 : x2 = 0 ∨ x2 = 1 := hb2
      refine ok_cb b_3 ?_
      refine ok_nm (fun σ_5 e_5 => ?_)
      have k_5 : KS σ σ_5 := ks_up (ks_rf σ) e_5 (by omega) (by omega) (by omega)
      exact ok_r ⟨trivial, k_5, (kj_rf τ)⟩
set_option maxHeartbeats 2000000 in
theorem s_C_X9_fitAll_4 (N : Nat) (hN : 4294967296 ≤ N) (rec_4 : gI → gJ → Int32 → Int32 → Option (Unit × gI × gJ)) (n_4 : Nat) (hrec_4 : ∀ (σ : gI) (τ : gJ) (x1 : Int32) (x2 : Int32), IC σ → (0 ≤ x2.toInt) → (2147483647 - x2.toInt).toNat < n_4 → okp (Kq σ τ (fun _ => True)) (rec_4 σ τ x1 x2)) (σ : gI) (τ : gJ) (x1 : Int32) (x2 : Int32) (hI : IC σ) (h0_4 : 0 ≤ x2.toInt) (hm_4 : (2147483647 - x2.toInt).toNat < n_4 + 1) : okp (Kq σ τ (fun _ => True)) (C_X9_fitAll_4 N rec_4 σ τ x1 x2) := by
  unfold C_X9_fitAll_4
  refine ok_ite (fun c_1 => ?_) (fun c_1 => ?_)
  · simp only [fa_lt, fa_le, fa_eq] at c_1
    exact ok_r ⟨trivial, (ks_rf σ), (kj_rf τ)⟩
  · simp only [fa_lt, fa_le, fa_eq] at c_1
    refine ok_bd (s_B_X9_setFitting_0 N hN σ τ x1 1 ((ks_rf σ).1.2 hI) (Or.inr rfl)) (fun _ σ_2 τ_2 hp_2 => ?_)
    have k_2 : KS σ σ_2 := ks_tr (ks_rf σ) hp_2.2.1
    have kj_2 : KJ τ τ_2 := kj_tr (kj_rf τ) hp_2.2.2
    refine ok_bd (s_B_X8_nextSet_0 N hN σ_2 τ_2 x1 (k_2.1.2 hI)) (fun r_3 σ_3 τ_3 hp_3 => ?_)
    have k_3 : KS σ σ_3 := ks_eq k_2 hp_3.2.1
    have kj_3 : KJ τ τ_3 := kj_eq kj_2 hp_3.2.2
    refine ok_nm (fun v_4 e_4 => ?_)
    exact ok_mono (fun _ _ _ h9 => ⟨h9.1, ks_tr k_3 h9.2.1, kj_tr kj_3 h9.2.2⟩) (hrec_4 σ_3 τ_3 r_3 v_4 (k_3.1.2 hI) (by have : (0 : Int32).toInt = 0 := rfl; have : (1 : Int32).toInt = 1 := rfl; have : (3 : Int32).toInt = 3 := rfl; have : (8 : Int32).toInt = 8 := rfl; have := i32_rng (σ 3 8); have := i32_rng v_4; have := i32_rng x2; have u_v_4 : v_4.toInt = (x2).toInt + 1 := (by rw [e_4]; have q := ti_add (a := x2) (b := 1) (by rw [show (1 : Int32).toInt = 1 from rfl]; omega) (by rw [show (1 : Int32).toInt = 1 from rfl]; omega); rw [q, show (1 : Int32).toInt = 1 from rfl]); omega) (by have : (1 : Int32).toInt = 1 := rfl; have : (3 : Int32).toInt = 3 := rfl; have : (8 : Int32).toInt = 8 := rfl; have := i32_rng (σ 3 8); have := i32_rng v_4; have := i32_rng x2; have u_v_4 : v_4.toInt = (x2).toInt + 1 := (by rw [e_4]; have q := ti_add (a := x2) (b := 1) (by rw [show (1 : Int32).toInt = 1 from rfl]; omega) (by rw [show (1 : Int32).toInt = 1 from rfl]; omega); rw [q, show (1 : Int32).toInt = 1 from rfl]); omega))
theorem s_H_X9_fitAll_4 (N : Nat) (hN : 4294967296 ≤ N) : ∀ (n : Nat) (σ : gI) (τ : gJ) (x1 : Int32) (x2 : Int32), IC σ → (0 ≤ x2.toInt) → (2147483647 - x2.toInt).toNat < n → okp (Kq σ τ (fun _ => True)) (H_X9_fitAll_4 N n σ τ x1 x2) := by
  intro n
  induction n with
  | zero => intro σ τ x1 x2 _ _ hm; exact absurd hm (Nat.not_lt_zero _)
  | succ n ih =>
    intro σ τ x1 x2 hI h0_4 hm
    exact s_C_X9_fitAll_4 N hN (H_X9_fitAll_4 N n) n ih σ τ x1 x2 hI h0_4 hm
set_option maxHeartbeats 2000000 in
theorem s_B_X9_fitAll_0 (N : Nat) (hN : 4294967296 ≤ N) (σ : gI) (τ : gJ) (hI : IC σ) : okp (Kq σ τ (fun _ => True)) (B_X9_fitAll_0 N σ τ) := by
  unfold B_X9_fitAll_0
  exact ok_mono (fun _ _ _ h9 => ⟨h9.1, ks_tr (ks_rf σ) h9.2.1, kj_tr (kj_rf τ) h9.2.2⟩) (s_H_X9_fitAll_4 N hN N σ τ 0 0 ((ks_rf σ).1.2 hI) (by have : (0 : Int32).toInt = 0 := rfl; omega) (by have : (0 : Int32).toInt = 0 := rfl; omega))
set_option maxHeartbeats 2000000 in
theorem s_B_X9_fits_0 (N : Nat) (hN : 4294967296 ≤ N) (σ : gI) (τ : gJ) (x1 : Int32) (hI : IC σ) : okp (Kqe σ τ (fun a => a = 0 ∨ a = 1)) (B_X9_fits_0 N σ τ x1) := by
  unfold B_X9_fits_0
  refine ok_ite (fun c_1 => ?_) (fun c_1 => ?_)
  · simp only [fa_lt, fa_le, fa_eq] at c_1
    exact ok_r ⟨(Or.inl rfl), (Eq.refl σ), (Eq.refl τ)⟩
  · simp only [fa_lt, fa_le, fa_eq] at c_1
    refine ok_ite (fun c_2 => ?_) (fun c_2 => ?_)
    · simp only [fa_lt, fa_le, fa_eq] at c_2
      exact ok_r ⟨(Or.inl rfl), (Eq.refl σ), (Eq.refl τ)⟩
    · simp only [fa_lt, fa_le, fa_eq] at c_2
      refine ok_ck (by have : (0 : Int32).toInt = 0 := rfl; have : (4096 : Int32).toInt = 4096 := rfl; have := i32_rng x1; omega) (fun j_3 hj_3 lj_3 => ?_)
      refine ok_ite (fun c_3 => ?_) (fun c_3 => ?_)
      · simp only [fa_lt, fa_le, fa_eq] at c_3
        exact ok_r ⟨(Or.inl rfl), (Eq.refl σ), (Eq.refl τ)⟩
      · simp only [fa_lt, fa_le, fa_eq] at c_3
        exact ok_r ⟨(Or.inr rfl), (Eq.refl σ), (Eq.refl τ)⟩
set_option maxHeartbeats 2000000 in
theorem s_B_X11_kitchenOf_0 (N : Nat) (hN : 4294967296 ≤ N) (σ : gI) (τ : gJ) (x0 : Int32) (hI : IC σ) : okp (Kqe σ τ (fun _ => True)) (B_X11_kitchenOf_0 N σ τ x0) := by
  unfold B_X11_kitchenOf_0
  refine ok_ite (fun c_1 => ?_) (fun c_1 => ?_)
  · simp only [fa_lt, fa_le, fa_eq] at c_1
    exact ok_r ⟨trivial, (Eq.refl σ), (Eq.refl τ)⟩
  · simp only [fa_lt, fa_le, fa_eq] at c_1
    exact ok_r ⟨trivial, (Eq.refl σ), (Eq.refl τ)⟩
set_option maxHeartbeats 2000000 in
theorem s_C_X11_findFits_68 (N : Nat) (hN : 4294967296 ≤ N) (rec_9 : gI → gJ → Int32 → Option (Unit × gI × gJ)) (n_9 : Nat) (hrec_9 : ∀ (σ : gI) (τ : gJ) (x1 : Int32), IC σ → (0 ≤ x1.toInt) → (2147483647 - x1.toInt).toNat < n_9 → okp (Kq σ τ (fun _ => True)) (rec_9 σ τ x1)) (rec_68 : gI → gJ → Int32 → Int32 → Int32 → Int32 → Option (Unit × gI × gJ)) (n_68 : Nat) (hrec_68 : ∀ (σ : gI) (τ : gJ) (x1 : Int32) (x2 : Int32) (x3 : Int32) (x4 : Int32), IC σ → (0 ≤ x1.toInt) → ((2147483647 - x1.toInt).toNat < n_9 + 1) → (x1.toInt < 2147483647) → (0 ≤ x4.toInt) → (2147483647 - x4.toInt).toNat < n_68 → okp (Kq σ τ (fun _ => True)) (rec_68 σ τ x1 x2 x3 x4)) (σ : gI) (τ : gJ) (x1 : Int32) (x2 : Int32) (x3 : Int32) (x4 : Int32) (hI : IC σ) (h0_9 : 0 ≤ x1.toInt) (hm_9 : (2147483647 - x1.toInt).toNat < n_9 + 1) (hlt_9 : x1.toInt < 2147483647) (h0_68 : 0 ≤ x4.toInt) (hm_68 : (2147483647 - x4.toInt).toNat < n_68 + 1) : okp (Kq σ τ (fun _ => True)) (C_X11_findFits_68 N rec_9 rec_68 σ τ x1 x2 x3 x4) := by
  unfold C_X11_findFits_68
  refine ok_ite (fun c_1 => ?_) (fun c_1 => ?_)
  · simp only [fa_lt, fa_le, fa_eq] at c_1
    refine ok_nm (fun v_2 e_2 => ?_)
    exact ok_mono (fun _ _ _ h9 => ⟨h9.1, ks_tr (ks_rf σ) h9.2.1, kj_tr (kj_rf τ) h9.2.2⟩) (hrec_9 σ τ v_2 ((ks_rf σ).1.2 hI) (by have : (0 : Int32).toInt = 0 := rfl; have : (1 : Int32).toInt = 1 := rfl; have : (3 : Int32).toInt = 3 := rfl; have : (8 : Int32).toInt = 8 := rfl; have := i32_rng (σ 3 8); have := i32_rng v_2; have := i32_rng x1; have := i32_rng x4; have u_v_2 : v_2.toInt = (x1).toInt + 1 := (by rw [e_2]; have q := ti_add (a := x1) (b := 1) (by rw [show (1 : Int32).toInt = 1 from rfl]; omega) (by rw [show (1 : Int32).toInt = 1 from rfl]; omega); rw [q, show (1 : Int32).toInt = 1 from rfl]); omega) (by have : (1 : Int32).toInt = 1 := rfl; have : (3 : Int32).toInt = 3 := rfl; have : (8 : Int32).toInt = 8 := rfl; have := i32_rng (σ 3 8); have := i32_rng v_2; have := i32_rng x1; have := i32_rng x4; have u_v_2 : v_2.toInt = (x1).toInt + 1 := (by rw [e_2]; have q := ti_add (a := x1) (b := 1) (by rw [show (1 : Int32).toInt = 1 from rfl]; omega) (by rw [show (1 : Int32).toInt = 1 from rfl]; omega); rw [q, show (1 : Int32).toInt = 1 from rfl]); omega))
  · simp only [fa_lt, fa_le, fa_eq] at c_1
    refine ok_bd (s_B_X9_fits_0 N hN σ τ x3 ((ks_rf σ).1.2 hI)) (fun r_3 σ_3 τ_3 hp_3 => ?_)
    have k_3 : KS σ σ_3 := ks_eq (ks_rf σ) hp_3.2.1
    have kj_3 : KJ τ τ_3 := kj_eq (kj_rf τ) hp_3.2.2
    refine ok_ite (fun c_2 => ?_) (fun c_2 => ?_)
    · simp only [fa_lt, fa_le, fa_eq] at c_2
      refine ok_bd (s_B_X8_nextSet_0 N hN σ_3 τ_3 x3 (k_3.1.2 hI)) (fun r_5 σ_5 τ_5 hp_5 => ?_)
      have k_5 : KS σ σ_5 := ks_eq k_3 hp_5.2.1
      have kj_5 : KJ τ τ_5 := kj_eq kj_3 hp_5.2.2
      refine ok_nm (fun v_6 e_6 => ?_)
      exact ok_mono (fun _ _ _ h9 => ⟨h9.1, ks_tr k_5 h9.2.1, kj_tr kj_5 h9.2.2⟩) (hrec_68 σ_5 τ_5 x1 x2 r_5 v_6 (k_5.1.2 hI) (by have : (0 : Int32).toInt = 0 := rfl; have : (3 : Int32).toInt = 3 := rfl; have : (8 : Int32).toInt = 8 := rfl; have := i32_rng (σ 3 8); have := i32_rng r_3; have := i32_rng x1; have := i32_rng x4; omega) (by have : (0 : Int32).toInt = 0 := rfl; have : (1 : Int32).toInt = 1 := rfl; have : (3 : Int32).toInt = 3 := rfl; have : (8 : Int32).toInt = 8 := rfl; have := i32_rng (σ 3 8); have := i32_rng r_3; have := i32_rng x1; have := i32_rng x4; omega) (by have : (0 : Int32).toInt = 0 := rfl; have : (3 : Int32).toInt = 3 := rfl; have : (8 : Int32).toInt = 8 := rfl; have := i32_rng (σ 3 8); have := i32_rng r_3; have := i32_rng x1; have := i32_rng x4; omega) (by have : (0 : Int32).toInt = 0 := rfl; have : (1 : Int32).toInt = 1 := rfl; have : (3 : Int32).toInt = 3 := rfl; have : (8 : Int32).toInt = 8 := rfl; have := i32_rng (σ 3 8); have := i32_rng r_3; have := i32_rng v_6; have := i32_rng x1; have := i32_rng x4; have u_v_6 : v_6.toInt = (x4).toInt + 1 := (by rw [e_6]; have q := ti_add (a := x4) (b := 1) (by rw [show (1 : Int32).toInt = 1 from rfl]; omega) (by rw [show (1 : Int32).toInt = 1 from rfl]; omega); rw [q, show (1 : Int32).toInt = 1 from rfl]); omega) (by have : (0 : Int32).toInt = 0 := rfl; have : (1 : Int32).toInt = 1 := rfl; have : (3 : Int32).toInt = 3 := rfl; have : (8 : Int32).toInt = 8 := rfl; have := i32_rng (σ 3 8); have := i32_rng r_3; have := i32_rng v_6; have := i32_rng x1; have := i32_rng x4; have u_v_6 : v_6.toInt = (x4).toInt + 1 := (by rw [e_6]; have q := ti_add (a := x4) (b := 1) (by rw [show (1 : Int32).toInt = 1 from rfl]; omega) (by rw [show (1 : Int32).toInt = 1 from rfl]; omega); rw [q, show (1 : Int32).toInt = 1 from rfl]); omega))
    · simp only [fa_lt, fa_le, fa_eq] at c_2
      refine ok_bd (s_B_X9_outcome_0 N hN σ_3 τ_3 x3 (k_3.1.2 hI)) (fun r_7 σ_7 τ_7 hp_7 => ?_)
      have k_7 : KS σ σ_7 := ks_tr k_3 hp_7.2.1
      have kj_7 : KJ τ τ_7 := kj_tr kj_3 hp_7.2.2
      refine ok_bd (s_B_X11_kitchenOf_0 N hN σ_7 τ_7 r_7 (k_7.1.2 hI)) (fun r_8 σ_8 τ_8 hp_8 => ?_)
      have k_8 : KS σ σ_8 := ks_eq k_7 hp_8.2.1
      have kj_8 : KJ τ τ_8 := kj_eq kj_7 hp_8.2.2
      refine ok_ite (fun c_3 => ?_) (fun c_3 => ?_)
      · simp only [fa_lt, fa_le, fa_eq] at c_3
        refine ok_bd (s_B_X8_nextSet_0 N hN σ_8 τ_8 x3 (k_8.1.2 hI)) (fun r_10 σ_10 τ_10 hp_10 => ?_)
        have k_10 : KS σ σ_10 := ks_eq k_8 hp_10.2.1
        have kj_10 : KJ τ τ_10 := kj_eq kj_8 hp_10.2.2
        refine ok_nm (fun v_11 e_11 => ?_)
        exact ok_mono (fun _ _ _ h9 => ⟨h9.1, ks_tr k_10 h9.2.1, kj_tr kj_10 h9.2.2⟩) (hrec_68 σ_10 τ_10 x1 x2 r_10 v_11 (k_10.1.2 hI) (by have : (0 : Int32).toInt = 0 := rfl; have : (3 : Int32).toInt = 3 := rfl; have : (8 : Int32).toInt = 8 := rfl; have := i32_rng (σ 3 8); have := i32_rng r_3; have := i32_rng r_8; have := i32_rng x1; have := i32_rng x2; have := i32_rng x4; omega) (by have : (0 : Int32).toInt = 0 := rfl; have : (1 : Int32).toInt = 1 := rfl; have : (3 : Int32).toInt = 3 := rfl; have : (8 : Int32).toInt = 8 := rfl; have := i32_rng (σ 3 8); have := i32_rng r_3; have := i32_rng r_8; have := i32_rng x1; have := i32_rng x2; have := i32_rng x4; omega) (by have : (0 : Int32).toInt = 0 := rfl; have : (3 : Int32).toInt = 3 := rfl; have : (8 : Int32).toInt = 8 := rfl; have := i32_rng (σ 3 8); have := i32_rng r_3; have := i32_rng r_8; have := i32_rng x1; have := i32_rng x2; have := i32_rng x4; omega) (by have : (0 : Int32).toInt = 0 := rfl; have : (1 : Int32).toInt = 1 := rfl; have : (3 : Int32).toInt = 3 := rfl; have : (8 : Int32).toInt = 8 := rfl; have := i32_rng (σ 3 8); have := i32_rng r_3; have := i32_rng r_8; have := i32_rng v_11; have := i32_rng x1; have := i32_rng x2; have := i32_rng x4; have u_v_11 : v_11.toInt = (x4).toInt + 1 := (by rw [e_11]; have q := ti_add (a := x4) (b := 1) (by rw [show (1 : Int32).toInt = 1 from rfl]; omega) (by rw [show (1 : Int32).toInt = 1 from rfl]; omega); rw [q, show (1 : Int32).toInt = 1 from rfl]); omega) (by have : (0 : Int32).toInt = 0 := rfl; have : (1 : Int32).toInt = 1 := rfl; have : (3 : Int32).toInt = 3 := rfl; have : (8 : Int32).toInt = 8 := rfl; have := i32_rng (σ 3 8); have := i32_rng r_3; have := i32_rng r_8; have := i32_rng v_11; have := i32_rng x1; have := i32_rng x2; have := i32_rng x4; have u_v_11 : v_11.toInt = (x4).toInt + 1 := (by rw [e_11]; have q := ti_add (a := x4) (b := 1) (by rw [show (1 : Int32).toInt = 1 from rfl]; omega) (by rw [show (1 : Int32).toInt = 1 from rfl]; omega); rw [q, show (1 : Int32).toInt = 1 from rfl]); omega))
      · simp only [fa_lt, fa_le, fa_eq] at c_3
        refine ok_bd (s_B_X9_setFitting_0 N hN σ_8 τ_8 x3 0 (k_8.1.2 hI) (Or.inl rfl)) (fun _ σ_12 τ_12 hp_12 => ?_)
        have k_12 : KS σ σ_12 := ks_tr k_8 hp_12.2.1
        have kj_12 : KJ τ τ_12 := kj_tr kj_8 hp_12.2.2
        refine ok_bd (s_B_X8_nextSet_0 N hN σ_12 τ_12 x3 (k_12.1.2 hI)) (fun r_13 σ_13 τ_13 hp_13 => ?_)
        have k_13 : KS σ σ_13 := ks_eq k_12 hp_13.2.1
        have kj_13 : KJ τ τ_13 := kj_eq kj_12 hp_13.2.2
        refine ok_nm (fun v_14 e_14 => ?_)
        exact ok_mono (fun _ _ _ h9 => ⟨h9.1, ks_tr k_13 h9.2.1, kj_tr kj_13 h9.2.2⟩) (hrec_68 σ_13 τ_13 x1 x2 r_13 v_14 (k_13.1.2 hI) (by have : (0 : Int32).toInt = 0 := rfl; have : (3 : Int32).toInt = 3 := rfl; have : (8 : Int32).toInt = 8 := rfl; have := i32_rng (σ 3 8); have := i32_rng r_3; have := i32_rng r_8; have := i32_rng x1; have := i32_rng x2; have := i32_rng x4; omega) (by have : (0 : Int32).toInt = 0 := rfl; have : (1 : Int32).toInt = 1 := rfl; have : (3 : Int32).toInt = 3 := rfl; have : (8 : Int32).toInt = 8 := rfl; have := i32_rng (σ 3 8); have := i32_rng r_3; have := i32_rng r_8; have := i32_rng x1; have := i32_rng x2; have := i32_rng x4; omega) (by have : (0 : Int32).toInt = 0 := rfl; have : (3 : Int32).toInt = 3 := rfl; have : (8 : Int32).toInt = 8 := rfl; have := i32_rng (σ 3 8); have := i32_rng r_3; have := i32_rng r_8; have := i32_rng x1; have := i32_rng x2; have := i32_rng x4; omega) (by have : (0 : Int32).toInt = 0 := rfl; have : (1 : Int32).toInt = 1 := rfl; have : (3 : Int32).toInt = 3 := rfl; have : (8 : Int32).toInt = 8 := rfl; have := i32_rng (σ 3 8); have := i32_rng r_3; have := i32_rng r_8; have := i32_rng v_14; have := i32_rng x1; have := i32_rng x2; have := i32_rng x4; have u_v_14 : v_14.toInt = (x4).toInt + 1 := (by rw [e_14]; have q := ti_add (a := x4) (b := 1) (by rw [show (1 : Int32).toInt = 1 from rfl]; omega) (by rw [show (1 : Int32).toInt = 1 from rfl]; omega); rw [q, show (1 : Int32).toInt = 1 from rfl]); omega) (by have : (0 : Int32).toInt = 0 := rfl; have : (1 : Int32).toInt = 1 := rfl; have : (3 : Int32).toInt = 3 := rfl; have : (8 : Int32).toInt = 8 := rfl; have := i32_rng (σ 3 8); have := i32_rng r_3; have := i32_rng r_8; have := i32_rng v_14; have := i32_rng x1; have := i32_rng x2; have := i32_rng x4; have u_v_14 : v_14.toInt = (x4).toInt + 1 := (by rw [e_14]; have q := ti_add (a := x4) (b := 1) (by rw [show (1 : Int32).toInt = 1 from rfl]; omega) (by rw [show (1 : Int32).toInt = 1 from rfl]; omega); rw [q, show (1 : Int32).toInt = 1 from rfl]); omega))
theorem s_H_X11_findFits_68 (N : Nat) (hN : 4294967296 ≤ N) (rec_9 : gI → gJ → Int32 → Option (Unit × gI × gJ)) (n_9 : Nat) (hrec_9 : ∀ (σ : gI) (τ : gJ) (x1 : Int32), IC σ → (0 ≤ x1.toInt) → (2147483647 - x1.toInt).toNat < n_9 → okp (Kq σ τ (fun _ => True)) (rec_9 σ τ x1)) : ∀ (n : Nat) (σ : gI) (τ : gJ) (x1 : Int32) (x2 : Int32) (x3 : Int32) (x4 : Int32), IC σ → (0 ≤ x1.toInt) → ((2147483647 - x1.toInt).toNat < n_9 + 1) → (x1.toInt < 2147483647) → (0 ≤ x4.toInt) → (2147483647 - x4.toInt).toNat < n → okp (Kq σ τ (fun _ => True)) (H_X11_findFits_68 N rec_9 n σ τ x1 x2 x3 x4) := by
  intro n
  induction n with
  | zero => intro σ τ x1 x2 x3 x4 _ _ _ _ _ hm; exact absurd hm (Nat.not_lt_zero _)
  | succ n ih =>
    intro σ τ x1 x2 x3 x4 hI h0_9 hm_9 hlt_9 h0_68 hm
    exact s_C_X11_findFits_68 N hN rec_9 n_9 hrec_9 (H_X11_findFits_68 N rec_9 n) n ih σ τ x1 x2 x3 x4 hI h0_9 hm_9 hlt_9 h0_68 hm
set_option maxHeartbeats 2000000 in
theorem s_C_X11_findFits_9 (N : Nat) (hN : 4294967296 ≤ N) (rec_9 : gI → gJ → Int32 → Option (Unit × gI × gJ)) (n_9 : Nat) (hrec_9 : ∀ (σ : gI) (τ : gJ) (x1 : Int32), IC σ → (0 ≤ x1.toInt) → (2147483647 - x1.toInt).toNat < n_9 → okp (Kq σ τ (fun _ => True)) (rec_9 σ τ x1)) (σ : gI) (τ : gJ) (x1 : Int32) (hI : IC σ) (h0_9 : 0 ≤ x1.toInt) (hm_9 : (2147483647 - x1.toInt).toNat < n_9 + 1) : okp (Kq σ τ (fun _ => True)) (C_X11_findFits_9 N rec_9 σ τ x1) := by
  unfold C_X11_findFits_9
  refine ok_ite (fun c_1 => ?_) (fun c_1 => ?_)
  · simp only [fa_lt, fa_le, fa_eq] at c_1
    exact ok_r ⟨trivial, (ks_rf σ), (kj_rf τ)⟩
  · simp only [fa_lt, fa_le, fa_eq] at c_1
    refine ok_bd (s_B_X0_endOf_0 N hN σ τ x1 ((ks_rf σ).1.2 hI)) (fun r_2 σ_2 τ_2 hp_2 => ?_)
    have k_2 : KS σ σ_2 := ks_eq (ks_rf σ) hp_2.2.1
    have kj_2 : KJ τ τ_2 := kj_eq (kj_rf τ) hp_2.2.2
    refine ok_bd (s_B_X0_spotOf_0 N hN σ_2 τ_2 x1 (k_2.1.2 hI)) (fun r_3 σ_3 τ_3 hp_3 => ?_)
    have k_3 : KS σ σ_3 := ks_eq k_2 hp_3.2.1
    have kj_3 : KJ τ τ_3 := kj_eq kj_2 hp_3.2.2
    refine ok_bd (s_B_X0_minuteOf_0 N hN σ_3 τ_3 x1 (k_3.1.2 hI)) (fun r_4 σ_4 τ_4 hp_4 => ?_)
    have k_4 : KS σ σ_4 := ks_eq k_3 hp_4.2.1
    have kj_4 : KJ τ τ_4 := kj_eq kj_3 hp_4.2.2
    refine ok_bd (s_B_X9_thinkOf_0 N hN σ_4 τ_4 r_3 99 0 0 r_4 (k_4.1.2 hI)) (fun _ σ_5 τ_5 hp_5 => ?_)
    have k_5 : KS σ σ_5 := ks_tr k_4 hp_5.2.1
    have kj_5 : KJ τ τ_5 := kj_tr kj_4 hp_5.2.2
    refine ok_bd (s_B_X9_forgetSets_0 N hN σ_5 τ_5 (k_5.1.2 hI)) (fun _ σ_6 τ_6 hp_6 => ?_)
    have k_6 : KS σ σ_6 := ks_tr k_5 hp_6.2.1
    have kj_6 : KJ τ τ_6 := kj_tr kj_5 hp_6.2.2
    exact ok_mono (fun _ _ _ h9 => ⟨h9.1, ks_tr k_6 h9.2.1, kj_tr kj_6 h9.2.2⟩) (s_H_X11_findFits_68 N hN rec_9 n_9 hrec_9 N σ_6 τ_6 x1 r_2 0 0 (k_6.1.2 hI) (by have : (0 : Int32).toInt = 0 := rfl; have : (3 : Int32).toInt = 3 := rfl; have : (152 : Int32).toInt = 152 := rfl; have := i32_rng (σ 152 3); have := i32_rng x1; omega) (by have : (1 : Int32).toInt = 1 := rfl; have : (3 : Int32).toInt = 3 := rfl; have : (152 : Int32).toInt = 152 := rfl; have := i32_rng (σ 152 3); have := i32_rng x1; omega) (by have : (3 : Int32).toInt = 3 := rfl; have : (152 : Int32).toInt = 152 := rfl; have := i32_rng (σ 152 3); have := i32_rng x1; omega) (by have : (0 : Int32).toInt = 0 := rfl; have : (3 : Int32).toInt = 3 := rfl; have : (152 : Int32).toInt = 152 := rfl; have := i32_rng (σ 152 3); have := i32_rng x1; omega) (by have : (0 : Int32).toInt = 0 := rfl; have : (3 : Int32).toInt = 3 := rfl; have : (152 : Int32).toInt = 152 := rfl; have := i32_rng (σ 152 3); have := i32_rng x1; omega))
theorem s_H_X11_findFits_9 (N : Nat) (hN : 4294967296 ≤ N) : ∀ (n : Nat) (σ : gI) (τ : gJ) (x1 : Int32), IC σ → (0 ≤ x1.toInt) → (2147483647 - x1.toInt).toNat < n → okp (Kq σ τ (fun _ => True)) (H_X11_findFits_9 N n σ τ x1) := by
  intro n
  induction n with
  | zero => intro σ τ x1 _ _ hm; exact absurd hm (Nat.not_lt_zero _)
  | succ n ih =>
    intro σ τ x1 hI h0_9 hm
    exact s_C_X11_findFits_9 N hN (H_X11_findFits_9 N n) n ih σ τ x1 hI h0_9 hm
set_option maxHeartbeats 2000000 in
theorem s_B_X11_findFits_0 (N : Nat) (hN : 4294967296 ≤ N) (σ : gI) (τ : gJ) (hI : IC σ) : okp (Kq σ τ (fun _ => True)) (B_X11_findFits_0 N σ τ) := by
  unfold B_X11_findFits_0
  refine ok_bd (s_B_X9_fitAll_0 N hN σ τ ((ks_rf σ).1.2 hI)) (fun _ σ_1 τ_1 hp_1 => ?_)
  have k_1 : KS σ σ_1 := ks_tr (ks_rf σ) hp_1.2.1
  have kj_1 : KJ τ τ_1 := kj_tr (kj_rf τ) hp_1.2.2
  exact ok_mono (fun _ _ _ h9 => ⟨h9.1, ks_tr k_1 h9.2.1, kj_tr kj_1 h9.2.2⟩) (s_H_X11_findFits_9 N hN N σ_1 τ_1 0 (k_1.1.2 hI) (by have : (0 : Int32).toInt = 0 := rfl; omega) (by have : (0 : Int32).toInt = 0 := rfl; omega))
set_option maxHeartbeats 2000000 in
theorem s_B_X11_flow_0 (N : Nat) (hN : 4294967296 ≤ N) (σ : gI) (τ : gJ) (x1 : Int32) (hI : IC σ) : okp (Kqe σ τ (fun _ => True)) (B_X11_flow_0 N σ τ x1) := by
  unfold B_X11_flow_0
  refine ok_ite (fun c_1 => ?_) (fun c_1 => ?_)
  · simp only [fa_lt, fa_le, fa_eq] at c_1
    exact ok_r ⟨trivial, (Eq.refl σ), (Eq.refl τ)⟩
  · simp only [fa_lt, fa_le, fa_eq] at c_1
    refine ok_ite (fun c_2 => ?_) (fun c_2 => ?_)
    · simp only [fa_lt, fa_le, fa_eq] at c_2
      exact ok_r ⟨trivial, (Eq.refl σ), (Eq.refl τ)⟩
    · simp only [fa_lt, fa_le, fa_eq] at c_2
      refine ok_bd (s_B_X10_in_0 N hN σ τ x1 ((ic_eq (Eq.refl σ)) hI)) (fun r_3 σ_3 τ_3 hp_3 => ?_)
      have k_3 : σ_3 = σ := hp_3.2.1.trans (Eq.refl σ)
      have kj_3 : τ_3 = τ := hp_3.2.2.trans (Eq.refl τ)
      exact ok_r ⟨trivial, k_3, kj_3⟩
set_option maxHeartbeats 2000000 in
theorem s_B_X11_forget_0 (N : Nat) (hN : 4294967296 ≤ N) (σ : gI) (τ : gJ) (hI : IC σ) : okp (Uq σ τ (fun _ => True)) (B_X11_forget_0 N σ τ) := by
  unfold B_X11_forget_0
  refine ok_nm (fun v_1 e_1 => ?_)
  refine ok_nm (fun σ_2 e_2 => ?_)
  have k_2 : US σ σ_2 := us_up (us_rf σ) e_2 (by omega) (by omega) (by omega)
  exact ok_r ⟨trivial, k_2, (kj_rf τ)⟩
set_option maxHeartbeats 2000000 in
theorem s_B_X11_give_0 (N : Nat) (hN : 4294967296 ≤ N) (σ : gI) (τ : gJ) (x1 : Int32) (x2 : Int32) (hI : IC σ) : okp (Kq σ τ (fun _ => True)) (B_X11_give_0 N σ τ x1 x2) := by
  unfold B_X11_give_0
  refine ok_bd (s_B_X6_isOnWay_0 N hN 30 is_30 σ τ x1 ((ks_rf σ).1.2 hI)) (fun r_1 σ_1 τ_1 hp_1 => ?_)
  have k_1 : KS σ σ_1 := ks_eq (ks_rf σ) hp_1.2.1
  have kj_1 : KJ τ τ_1 := kj_eq (kj_rf τ) hp_1.2.2
  refine ok_ite (fun c_1 => ?_) (fun c_1 => ?_)
  · simp only [fa_lt, fa_le, fa_eq] at c_1
    exact ok_r ⟨trivial, k_1, kj_1⟩
  · simp only [fa_lt, fa_le, fa_eq] at c_1
    refine ok_ite (fun c_2 => ?_) (fun c_2 => ?_)
    · simp only [fa_lt, fa_le, fa_eq] at c_2
      exact ok_r ⟨trivial, k_1, kj_1⟩
    · simp only [fa_lt, fa_le, fa_eq] at c_2
      refine ok_ite (fun c_3 => ?_) (fun c_3 => ?_)
      · simp only [fa_lt, fa_le, fa_eq] at c_3
        refine ok_bd (s_B_X3_push_0 N hN 30 is_30 σ_1 τ_1 (k_1.1.2 hI)) (fun _ σ_5 τ_5 hp_5 => ?_)
        have k_5 : KS σ σ_5 := ks_tr k_1 hp_5.2.1
        have kj_5 : KJ τ τ_5 := kj_tr kj_1 hp_5.2.2
        refine ok_bd (s_B_X6_enrich_0 N hN 30 is_30 σ_5 τ_5 x1 x2 (k_5.1.2 hI)) (fun r_6 σ_6 τ_6 hp_6 => ?_)
        have k_6 : KS σ σ_6 := ks_tr k_5 hp_6.2.1
        have kj_6 : KJ τ τ_6 := kj_tr kj_5 hp_6.2.2
        exact ok_r ⟨trivial, k_6, kj_6⟩
      · simp only [fa_lt, fa_le, fa_eq] at c_3
        exact ok_r ⟨trivial, k_1, kj_1⟩
set_option maxHeartbeats 2000000 in
theorem s_B_X11_isAhead_0 (N : Nat) (hN : 4294967296 ≤ N) (σ : gI) (τ : gJ) (x0 : Int32) (hI : IC σ) : okp (Kqe σ τ (fun a => (a.toInt = 0 ∨ a.toInt = 1) ∧ (a.toInt = 1 → 0 ≤ x0.toInt ∧ x0.toInt ≤ 300))) (B_X11_isAhead_0 N σ τ x0) := by
  unfold B_X11_isAhead_0
  refine ok_ite (fun c_1 => ?_) (fun c_1 => ?_)
  · simp only [fa_lt, fa_le, fa_eq] at c_1
    exact ok_r ⟨(by have : (0 : Int32).toInt = 0 := rfl; have : (1 : Int32).toInt = 1 := rfl; have : (300 : Int32).toInt = 300 := rfl; have := i32_rng x0; omega), (Eq.refl σ), (Eq.refl τ)⟩
  · simp only [fa_lt, fa_le, fa_eq] at c_1
    refine ok_ite (fun c_2 => ?_) (fun c_2 => ?_)
    · simp only [fa_lt, fa_le, fa_eq] at c_2
      exact ok_r ⟨(by have : (0 : Int32).toInt = 0 := rfl; have : (1 : Int32).toInt = 1 := rfl; have : (300 : Int32).toInt = 300 := rfl; have := i32_rng x0; omega), (Eq.refl σ), (Eq.refl τ)⟩
    · simp only [fa_lt, fa_le, fa_eq] at c_2
      exact ok_r ⟨(by have : (0 : Int32).toInt = 0 := rfl; have : (1 : Int32).toInt = 1 := rfl; have : (300 : Int32).toInt = 300 := rfl; have := i32_rng x0; omega), (Eq.refl σ), (Eq.refl τ)⟩
set_option maxHeartbeats 2000000 in
theorem s_C_X9_goOn_10 (N : Nat) (hN : 4294967296 ≤ N) (rec_10 : gI → gJ → Int32 → Int32 → Option (Unit × gI × gJ)) (n_10 : Nat) (hrec_10 : ∀ (σ : gI) (τ : gJ) (x2 : Int32) (x3 : Int32), IC σ → (0 ≤ x3.toInt) → (2147483647 - x3.toInt).toNat < n_10 → okp (Kq σ τ (fun _ => True)) (rec_10 σ τ x2 x3)) (σ : gI) (τ : gJ) (x2 : Int32) (x3 : Int32) (hI : IC σ) (h0_10 : 0 ≤ x3.toInt) (hm_10 : (2147483647 - x3.toInt).toNat < n_10 + 1) : okp (Kq σ τ (fun _ => True)) (C_X9_goOn_10 N rec_10 σ τ x2 x3) := by
  unfold C_X9_goOn_10
  refine ok_ite (fun c_1 => ?_) (fun c_1 => ?_)
  · simp only [fa_lt, fa_le, fa_eq] at c_1
    exact ok_r ⟨trivial, (ks_rf σ), (kj_rf τ)⟩
  · simp only [fa_lt, fa_le, fa_eq] at c_1
    refine ok_bd (s_B_X6_onWay_0 N hN 171 is_171 σ τ ((ks_rf σ).1.2 hI)) (fun r_2 σ_2 τ_2 hp_2 => ?_)
    have k_2 : KS σ σ_2 := ks_eq (ks_rf σ) hp_2.2.1
    have kj_2 : KJ τ τ_2 := kj_eq (kj_rf τ) hp_2.2.2
    refine ok_ite (fun c_2 => ?_) (fun c_2 => ?_)
    · simp only [fa_lt, fa_le, fa_eq] at c_2
      exact ok_r ⟨trivial, k_2, kj_2⟩
    · simp only [fa_lt, fa_le, fa_eq] at c_2
      refine ok_bd (s_B_X1_pass_0 N hN 171 is_171 σ_2 τ_2 (k_2.1.2 hI)) (fun _ σ_4 τ_4 hp_4 => ?_)
      have k_4 : KS σ σ_4 := ks_tr k_2 hp_4.2.1
      have kj_4 : KJ τ τ_4 := kj_tr kj_2 hp_4.2.2
      refine ok_nm (fun v_5 e_5 => ?_)
      exact ok_mono (fun _ _ _ h9 => ⟨h9.1, ks_tr k_4 h9.2.1, kj_tr kj_4 h9.2.2⟩) (hrec_10 σ_4 τ_4 x2 v_5 (k_4.1.2 hI) (by have : (0 : Int32).toInt = 0 := rfl; have : (1 : Int32).toInt = 1 := rfl; have := i32_rng r_2; have := i32_rng v_5; have := i32_rng x2; have := i32_rng x3; have u_v_5 : v_5.toInt = (x3).toInt + 1 := (by rw [e_5]; have q := ti_add (a := x3) (b := 1) (by rw [show (1 : Int32).toInt = 1 from rfl]; omega) (by rw [show (1 : Int32).toInt = 1 from rfl]; omega); rw [q, show (1 : Int32).toInt = 1 from rfl]); omega) (by have : (0 : Int32).toInt = 0 := rfl; have : (1 : Int32).toInt = 1 := rfl; have := i32_rng r_2; have := i32_rng v_5; have := i32_rng x2; have := i32_rng x3; have u_v_5 : v_5.toInt = (x3).toInt + 1 := (by rw [e_5]; have q := ti_add (a := x3) (b := 1) (by rw [show (1 : Int32).toInt = 1 from rfl]; omega) (by rw [show (1 : Int32).toInt = 1 from rfl]; omega); rw [q, show (1 : Int32).toInt = 1 from rfl]); omega))
theorem s_H_X9_goOn_10 (N : Nat) (hN : 4294967296 ≤ N) : ∀ (n : Nat) (σ : gI) (τ : gJ) (x2 : Int32) (x3 : Int32), IC σ → (0 ≤ x3.toInt) → (2147483647 - x3.toInt).toNat < n → okp (Kq σ τ (fun _ => True)) (H_X9_goOn_10 N n σ τ x2 x3) := by
  intro n
  induction n with
  | zero => intro σ τ x2 x3 _ _ hm; exact absurd hm (Nat.not_lt_zero _)
  | succ n ih =>
    intro σ τ x2 x3 hI h0_10 hm
    exact s_C_X9_goOn_10 N hN (H_X9_goOn_10 N n) n ih σ τ x2 x3 hI h0_10 hm
set_option maxHeartbeats 2000000 in
theorem s_B_X9_goOn_0 (N : Nat) (hN : 4294967296 ≤ N) (σ : gI) (τ : gJ) (x2 : Int32) (hI : IC σ) : okp (Kq σ τ (fun _ => True)) (B_X9_goOn_0 N σ τ x2) := by
  unfold B_X9_goOn_0
  refine ok_bd (s_B_X6_copy_0 N hN 171 is_171 30 is_30 σ τ ((ks_rf σ).1.2 hI)) (fun _ σ_1 τ_1 hp_1 => ?_)
  have k_1 : KS σ σ_1 := ks_tr (ks_rf σ) hp_1.2.1
  have kj_1 : KJ τ τ_1 := kj_tr (kj_rf τ) hp_1.2.2
  exact ok_mono (fun _ _ _ h9 => ⟨h9.1, ks_tr k_1 h9.2.1, kj_tr kj_1 h9.2.2⟩) (s_H_X9_goOn_10 N hN N σ_1 τ_1 x2 0 (k_1.1.2 hI) (by have : (0 : Int32).toInt = 0 := rfl; omega) (by have : (0 : Int32).toInt = 0 := rfl; omega))
set_option maxHeartbeats 2000000 in
theorem s_B_X11_homes_0 (N : Nat) (hN : 4294967296 ≤ N) (σ : gI) (τ : gJ) (x1 : Int32) (hI : IC σ) : okp (Kq σ τ (fun _ => True)) (B_X11_homes_0 N σ τ x1) := by
  unfold B_X11_homes_0
  refine ok_bd (s_B_X11_isAhead_0 N hN σ τ x1 ((ks_rf σ).1.2 hI)) (fun r_1 σ_1 τ_1 hp_1 => ?_)
  have k_1 : KS σ σ_1 := ks_eq (ks_rf σ) hp_1.2.1
  have kj_1 : KJ τ τ_1 := kj_eq (kj_rf τ) hp_1.2.2
  have hb_1 :  (r_1.toInt = 0 ∨ r_1.toInt = 1) ∧ (r_1.toInt = 1 → 0 ≤ x1.toInt ∧ x1.toInt ≤ 300) := hp_1.1
  refine ok_ite (fun c_1 => ?_) (fun c_1 => ?_)
  · simp only [fa_lt, fa_le, fa_eq] at c_1
    exact ok_r ⟨trivial, k_1, kj_1⟩
  · simp only [fa_lt, fa_le, fa_eq] at c_1
    refine ok_bd (s_B_X9_goOn_0 N hN σ_1 τ_1 x1 (k_1.1.2 hI)) (fun _ σ_3 τ_3 hp_3 => ?_)
    have k_3 : KS σ σ_3 := ks_tr k_1 hp_3.2.1
    have kj_3 : KJ τ τ_3 := kj_tr kj_1 hp_3.2.2
    refine ok_bd (s_B_X6_onWay_0 N hN 171 is_171 σ_3 τ_3 (k_3.1.2 hI)) (fun r_4 σ_4 τ_4 hp_4 => ?_)
    have k_4 : KS σ σ_4 := ks_eq k_3 hp_4.2.1
    have kj_4 : KJ τ τ_4 := kj_eq kj_3 hp_4.2.2
    refine ok_bd (s_B_X4_tell__0 N hN σ_4 τ_4 ((σ_3 171 10).toInt64) r_4.toInt64 (k_4.1.2 hI)) (fun _ σ_5 τ_5 hp_5 => ?_)
    have k_5 : KS σ σ_5 := ks_tr k_4 hp_5.2.1
    have kj_5 : KJ τ τ_5 := kj_tr kj_4 hp_5.2.2
    exact ok_r ⟨trivial, k_5, kj_5⟩
set_option maxHeartbeats 2000000 in
theorem s_B_X11_isWait_0 (N : Nat) (hN : 4294967296 ≤ N) (σ : gI) (τ : gJ) (x0 : Int32) (hI : IC σ) : okp (Kqe σ τ (fun a => a = 0 ∨ a = 1)) (B_X11_isWait_0 N σ τ x0) := by
  unfold B_X11_isWait_0
  refine ok_ite (fun c_1 => ?_) (fun c_1 => ?_)
  · simp only [fa_lt, fa_le, fa_eq] at c_1
    exact ok_r ⟨(Or.inl rfl), (Eq.refl σ), (Eq.refl τ)⟩
  · simp only [fa_lt, fa_le, fa_eq] at c_1
    refine ok_ite (fun c_2 => ?_) (fun c_2 => ?_)
    · simp only [fa_lt, fa_le, fa_eq] at c_2
      exact ok_r ⟨(Or.inl rfl), (Eq.refl σ), (Eq.refl τ)⟩
    · simp only [fa_lt, fa_le, fa_eq] at c_2
      exact ok_r ⟨(Or.inr rfl), (Eq.refl σ), (Eq.refl τ)⟩
set_option maxHeartbeats 2000000 in
theorem s_B_X11_keep_0 (N : Nat) (hN : 4294967296 ≤ N) (σ : gI) (τ : gJ) (x1 : Int32) (hI : IC σ) : okp (Uq σ τ (fun a => a = 0 ∨ a = 1)) (B_X11_keep_0 N σ τ x1) := by
  unfold B_X11_keep_0
  refine ok_ite (fun c_1 => ?_) (fun c_1 => ?_)
  · simp only [fa_lt, fa_le, fa_eq] at c_1
    exact ok_r ⟨(Or.inl rfl), (us_rf σ), (kj_rf τ)⟩
  · simp only [fa_lt, fa_le, fa_eq] at c_1
    refine ok_ite (fun c_2 => ?_) (fun c_2 => ?_)
    · simp only [fa_lt, fa_le, fa_eq] at c_2
      refine ok_ck (by have : (0 : Int32).toInt = 0 := rfl; have : (3 : Int32).toInt = 3 := rfl; have := i32_rng x1; omega) (fun j_3 hj_3 lj_3 => ?_)
      refine ok_bd (s_B_X6_copy_0 N hN (178 + 7 * j_3) (tb_kept lj_3) 30 is_30 σ τ ((us_rf σ).1.2 hI)) (fun _ σ_4 τ_4 hp_4 => ?_)
      have k_4 : US σ σ_4 := us_tr (us_rf σ) (ku_ss hp_4.2.1)
      have kj_4 : KJ τ τ_4 := kj_tr (kj_rf τ) hp_4.2.2
      refine ok_nm (fun σ_5 e_5 => ?_)
      have k_5 : US σ σ_5 := us_up k_4 e_5 (by omega) (by omega) (by omega)
      exact ok_r ⟨(Or.inr rfl), k_5, kj_4⟩
    · simp only [fa_lt, fa_le, fa_eq] at c_2
      exact ok_r ⟨(Or.inl rfl), (us_rf σ), (kj_rf τ)⟩
set_option maxHeartbeats 2000000 in
theorem s_C_X11_lowest_2 (N : Nat) (hN : 4294967296 ≤ N) (rec_2 : gI → gJ → Int32 → Int32 → Option (Int32 × gI × gJ)) (n_2 : Nat) (hrec_2 : ∀ (σ : gI) (τ : gJ) (x0 : Int32) (x1 : Int32), IC σ → (0 ≤ x1.toInt) → (2147483647 - x1.toInt).toNat < n_2 → okp (Kqe σ τ (fun _ => True)) (rec_2 σ τ x0 x1)) (σ : gI) (τ : gJ) (x0 : Int32) (x1 : Int32) (hI : IC σ) (h0_2 : 0 ≤ x1.toInt) (hm_2 : (2147483647 - x1.toInt).toNat < n_2 + 1) : okp (Kqe σ τ (fun _ => True)) (C_X11_lowest_2 N rec_2 σ τ x0 x1) := by
  unfold C_X11_lowest_2
  refine ok_ite (fun c_1 => ?_) (fun c_1 => ?_)
  · simp only [fa_lt, fa_le, fa_eq] at c_1
    exact ok_r ⟨trivial, (Eq.refl σ), (Eq.refl τ)⟩
  · simp only [fa_lt, fa_le, fa_eq] at c_1
    refine ok_ite (fun c_2 => ?_) (fun c_2 => ?_)
    · simp only [fa_lt, fa_le, fa_eq] at c_2
      refine ok_nm (fun v_3 e_3 => ?_)
      exact ok_mono (fun _ _ _ h9 => ⟨h9.1, h9.2.1.trans (Eq.refl σ), h9.2.2.trans (Eq.refl τ)⟩) (hrec_2 σ τ x0 v_3 ((ic_eq (Eq.refl σ)) hI) (by have : (0 : Int32).toInt = 0 := rfl; have : (1 : Int32).toInt = 1 := rfl; have : (31 : Int32).toInt = 31 := rfl; have : (32 : Int32).toInt = 32 := rfl; have := i32_rng v_3; have := i32_rng x0; have := i32_rng x1; have u_v_3 : v_3.toInt = (x1).toInt + 1 := (by rw [e_3]; have q := ti_add (a := x1) (b := 1) (by rw [show (1 : Int32).toInt = 1 from rfl]; omega) (by rw [show (1 : Int32).toInt = 1 from rfl]; omega); rw [q, show (1 : Int32).toInt = 1 from rfl]); omega) (by have : (0 : Int32).toInt = 0 := rfl; have : (1 : Int32).toInt = 1 := rfl; have : (31 : Int32).toInt = 31 := rfl; have : (32 : Int32).toInt = 32 := rfl; have := i32_rng v_3; have := i32_rng x0; have := i32_rng x1; have u_v_3 : v_3.toInt = (x1).toInt + 1 := (by rw [e_3]; have q := ti_add (a := x1) (b := 1) (by rw [show (1 : Int32).toInt = 1 from rfl]; omega) (by rw [show (1 : Int32).toInt = 1 from rfl]; omega); rw [q, show (1 : Int32).toInt = 1 from rfl]); omega))
    · simp only [fa_lt, fa_le, fa_eq] at c_2
      exact ok_r ⟨trivial, (Eq.refl σ), (Eq.refl τ)⟩
theorem s_H_X11_lowest_2 (N : Nat) (hN : 4294967296 ≤ N) : ∀ (n : Nat) (σ : gI) (τ : gJ) (x0 : Int32) (x1 : Int32), IC σ → (0 ≤ x1.toInt) → (2147483647 - x1.toInt).toNat < n → okp (Kqe σ τ (fun _ => True)) (H_X11_lowest_2 N n σ τ x0 x1) := by
  intro n
  induction n with
  | zero => intro σ τ x0 x1 _ _ hm; exact absurd hm (Nat.not_lt_zero _)
  | succ n ih =>
    intro σ τ x0 x1 hI h0_2 hm
    exact s_C_X11_lowest_2 N hN (H_X11_lowest_2 N n) n ih σ τ x0 x1 hI h0_2 hm
set_option maxHeartbeats 2000000 in
theorem s_B_X11_lowest_0 (N : Nat) (hN : 4294967296 ≤ N) (σ : gI) (τ : gJ) (x0 : Int32) (hI : IC σ) : okp (Kqe σ τ (fun _ => True)) (B_X11_lowest_0 N σ τ x0) := by
  unfold B_X11_lowest_0
  exact ok_mono (fun _ _ _ h9 => ⟨h9.1, h9.2.1.trans (Eq.refl σ), h9.2.2.trans (Eq.refl τ)⟩) (s_H_X11_lowest_2 N hN N σ τ x0 0 ((ic_eq (Eq.refl σ)) hI) (by have : (0 : Int32).toInt = 0 := rfl; omega) (by have : (0 : Int32).toInt = 0 := rfl; omega))
set_option maxHeartbeats 2000000 in
theorem s_C_X11_lost_27 (N : Nat) (hN : 4294967296 ≤ N) (rec_27 : gI → gJ → Int32 → Int32 → Option (Int32 × gI × gJ)) (n_27 : Nat) (hrec_27 : ∀ (σ : gI) (τ : gJ) (x1 : Int32) (x3 : Int32), IC σ → (0 ≤ x3.toInt) → (x1.toInt ≤ 300) → (2147483647 - x3.toInt).toNat < n_27 → okp (Kq σ τ (fun _ => True)) (rec_27 σ τ x1 x3)) (σ : gI) (τ : gJ) (x1 : Int32) (x3 : Int32) (hI : IC σ) (h0_27 : 0 ≤ x3.toInt) (hm_27 : (2147483647 - x3.toInt).toNat < n_27 + 1) (h1 : x1.toInt ≤ 300) : okp (Kq σ τ (fun _ => True)) (C_X11_lost_27 N rec_27 σ τ x1 x3) := by
  unfold C_X11_lost_27
  refine ok_ite (fun c_1 => ?_) (fun c_1 => ?_)
  · simp only [fa_lt, fa_le, fa_eq] at c_1
    exact ok_r ⟨trivial, (ks_rf σ), (kj_rf τ)⟩
  · simp only [fa_lt, fa_le, fa_eq] at c_1
    refine ok_bd (s_B_X6_onWay_0 N hN 171 is_171 σ τ ((ks_rf σ).1.2 hI)) (fun r_2 σ_2 τ_2 hp_2 => ?_)
    have k_2 : KS σ σ_2 := ks_eq (ks_rf σ) hp_2.2.1
    have kj_2 : KJ τ τ_2 := kj_eq (kj_rf τ) hp_2.2.2
    refine ok_ite (fun c_2 => ?_) (fun c_2 => ?_)
    · simp only [fa_lt, fa_le, fa_eq] at c_2
      exact ok_r ⟨trivial, k_2, kj_2⟩
    · simp only [fa_lt, fa_le, fa_eq] at c_2
      refine ok_bd (s_B_X1_pass_0 N hN 171 is_171 σ_2 τ_2 (k_2.1.2 hI)) (fun _ σ_4 τ_4 hp_4 => ?_)
      have k_4 : KS σ σ_4 := ks_tr k_2 hp_4.2.1
      have kj_4 : KJ τ τ_4 := kj_tr kj_2 hp_4.2.2
      refine ok_nm (fun v_5 e_5 => ?_)
      refine ok_ite (fun c_3 => ?_) (fun c_3 => ?_)
      · simp only [fa_lt, fa_le, fa_eq] at c_3
        refine ok_nm (fun v_7 e_7 => ?_)
        exact ok_mono (fun _ _ _ h9 => ⟨h9.1, ks_tr k_4 h9.2.1, kj_tr kj_4 h9.2.2⟩) (hrec_27 σ_4 τ_4 x1 v_7 (k_4.1.2 hI) (by have : (-1 : Int32).toInt = -1 := rfl; have : (0 : Int32).toInt = 0 := rfl; have : (1 : Int32).toInt = 1 := rfl; have : (10 : Int32).toInt = 10 := rfl; have : (30 : Int32).toInt = 30 := rfl; have : (171 : Int32).toInt = 171 := rfl; have := i32_rng (σ_4 171 10); have := i32_rng (σ_4 30 10); have := i32_rng r_2; have := i32_rng v_5; have := i32_rng v_7; have := i32_rng x1; have := i32_rng x3; have u_v_7 : v_7.toInt = (x3).toInt + 1 := (by rw [e_7]; have q := ti_add (a := x3) (b := 1) (by rw [show (1 : Int32).toInt = 1 from rfl]; omega) (by rw [show (1 : Int32).toInt = 1 from rfl]; omega); rw [q, show (1 : Int32).toInt = 1 from rfl]); omega) (by have : (-1 : Int32).toInt = -1 := rfl; have : (0 : Int32).toInt = 0 := rfl; have : (10 : Int32).toInt = 10 := rfl; have : (30 : Int32).toInt = 30 := rfl; have : (171 : Int32).toInt = 171 := rfl; have : (300 : Int32).toInt = 300 := rfl; have := i32_rng (σ_4 171 10); have := i32_rng (σ_4 30 10); have := i32_rng r_2; have := i32_rng v_5; have := i32_rng x1; have := i32_rng x3; omega) (by have : (-1 : Int32).toInt = -1 := rfl; have : (0 : Int32).toInt = 0 := rfl; have : (1 : Int32).toInt = 1 := rfl; have : (10 : Int32).toInt = 10 := rfl; have : (30 : Int32).toInt = 30 := rfl; have : (171 : Int32).toInt = 171 := rfl; have := i32_rng (σ_4 171 10); have := i32_rng (σ_4 30 10); have := i32_rng r_2; have := i32_rng v_5; have := i32_rng v_7; have := i32_rng x1; have := i32_rng x3; have u_v_7 : v_7.toInt = (x3).toInt + 1 := (by rw [e_7]; have q := ti_add (a := x3) (b := 1) (by rw [show (1 : Int32).toInt = 1 from rfl]; omega) (by rw [show (1 : Int32).toInt = 1 from rfl]; omega); rw [q, show (1 : Int32).toInt = 1 from rfl]); omega))
      · simp only [fa_lt, fa_le, fa_eq] at c_3
        refine ok_bd (s_B_X11_lowest_0 N hN σ_4 τ_4 v_5 (k_4.1.2 hI)) (fun r_8 σ_8 τ_8 hp_8 => ?_)
        have k_8 : KS σ σ_8 := ks_eq k_4 hp_8.2.1
        have kj_8 : KJ τ τ_8 := kj_eq kj_4 hp_8.2.2
        refine ok_bd (s_B_X6_spotOf_0 N hN 171 is_171 σ_8 τ_8 r_8 (k_8.1.2 hI)) (fun r_9 σ_9 τ_9 hp_9 => ?_)
        have k_9 : KS σ σ_9 := ks_eq k_8 hp_9.2.1
        have kj_9 : KJ τ τ_9 := kj_eq kj_8 hp_9.2.2
        refine ok_bd (s_B_X4_tell__0 N hN σ_9 τ_9 x3.toInt64 r_9.toInt64 (k_9.1.2 hI)) (fun _ σ_10 τ_10 hp_10 => ?_)
        have k_10 : KS σ σ_10 := ks_tr k_9 hp_10.2.1
        have kj_10 : KJ τ τ_10 := kj_tr kj_9 hp_10.2.2
        exact ok_r ⟨trivial, k_10, kj_10⟩
theorem s_H_X11_lost_27 (N : Nat) (hN : 4294967296 ≤ N) : ∀ (n : Nat) (σ : gI) (τ : gJ) (x1 : Int32) (x3 : Int32), IC σ → (0 ≤ x3.toInt) → (x1.toInt ≤ 300) → (2147483647 - x3.toInt).toNat < n → okp (Kq σ τ (fun _ => True)) (H_X11_lost_27 N n σ τ x1 x3) := by
  intro n
  induction n with
  | zero => intro σ τ x1 x3 _ _ _ hm; exact absurd hm (Nat.not_lt_zero _)
  | succ n ih =>
    intro σ τ x1 x3 hI h0_27 h1 hm
    exact s_C_X11_lost_27 N hN (H_X11_lost_27 N n) n ih σ τ x1 x3 hI h0_27 hm h1
set_option maxHeartbeats 2000000 in
theorem s_B_X11_lost_0 (N : Nat) (hN : 4294967296 ≤ N) (σ : gI) (τ : gJ) (x1 : Int32) (hI : IC σ) : okp (Kq σ τ (fun _ => True)) (B_X11_lost_0 N σ τ x1) := by
  unfold B_X11_lost_0
  refine ok_bd (s_B_X11_isAhead_0 N hN σ τ x1 ((ks_rf σ).1.2 hI)) (fun r_1 σ_1 τ_1 hp_1 => ?_)
  have k_1 : KS σ σ_1 := ks_eq (ks_rf σ) hp_1.2.1
  have kj_1 : KJ τ τ_1 := kj_eq (kj_rf τ) hp_1.2.2
  have hb_1 :  (r_1.toInt = 0 ∨ r_1.toInt = 1) ∧ (r_1.toInt = 1 → 0 ≤ x1.toInt ∧ x1.toInt ≤ 300) := hp_1.1
  refine ok_ite (fun c_1 => ?_) (fun c_1 => ?_)
  · simp only [fa_lt, fa_le, fa_eq] at c_1
    exact ok_r ⟨trivial, k_1, kj_1⟩
  · simp only [fa_lt, fa_le, fa_eq] at c_1
    refine ok_bd (s_B_X6_copy_0 N hN 171 is_171 30 is_30 σ_1 τ_1 (k_1.1.2 hI)) (fun _ σ_3 τ_3 hp_3 => ?_)
    have k_3 : KS σ σ_3 := ks_tr k_1 hp_3.2.1
    have kj_3 : KJ τ τ_3 := kj_tr kj_1 hp_3.2.2
    exact ok_mono (fun _ _ _ h9 => ⟨h9.1, ks_tr k_3 h9.2.1, kj_tr kj_3 h9.2.2⟩) (s_H_X11_lost_27 N hN N σ_3 τ_3 x1 1 (k_3.1.2 hI) (by have : (0 : Int32).toInt = 0 := rfl; have : (1 : Int32).toInt = 1 := rfl; have := i32_rng r_1; have := i32_rng x1; omega) (by have : (0 : Int32).toInt = 0 := rfl; have : (300 : Int32).toInt = 300 := rfl; have := i32_rng r_1; have := i32_rng x1; omega) (by have : (0 : Int32).toInt = 0 := rfl; have : (1 : Int32).toInt = 1 := rfl; have := i32_rng r_1; have := i32_rng x1; omega))
set_option maxHeartbeats 2000000 in
theorem s_B_X4_tell___0 (N : Nat) (hN : 4294967296 ≤ N) (σ : gI) (τ : gJ) (x1 : Int64) (x3 : Int64) (x5 : Int64) (hI : IC σ) : okp (Kq σ τ (fun _ => True)) (B_X4_tell___0 N σ τ x1 x3 x5) := by
  unfold B_X4_tell___0
  refine ok_nm (fun τ_1 e_1 => ?_)
  have kj_1 : KJ τ τ_1 := kj_up (kj_rf τ) e_1 (by omega)
  refine ok_nm (fun τ_2 e_2 => ?_)
  have kj_2 : KJ τ τ_2 := kj_up kj_1 e_2 (by omega)
  refine ok_nm (fun τ_3 e_3 => ?_)
  have kj_3 : KJ τ τ_3 := kj_up kj_2 e_3 (by omega)
  refine ok_nm (fun σ_4 e_4 => ?_)
  have k_4 : KS σ σ_4 := ks_up (ks_rf σ) e_4 (by omega) (by omega) (by omega)
  exact ok_r ⟨trivial, k_4, kj_3⟩
set_option maxHeartbeats 2000000 in
theorem s_B_X11_maps_69 (N : Nat) (hN : 4294967296 ≤ N) (rec_31 : gI → gJ → Int32 → Int32 → Int32 → Int32 → Int32 → Int32 → Option (Int32 × gI × gJ)) (n_31 : Nat) (hrec_31 : ∀ (σ : gI) (τ : gJ) (x1 : Int32) (x2 : Int32) (x3 : Int32) (x4 : Int32) (x5 : Int32) (x6 : Int32), IC σ → (0 ≤ x6.toInt) → (2147483647 - x6.toInt).toNat < n_31 → okp (Kq σ τ (fun _ => True)) (rec_31 σ τ x1 x2 x3 x4 x5 x6)) (σ : gI) (τ : gJ) (x1 : Int32) (x3 : Int32) (x4 : Int32) (x5 : Int32) (x6 : Int32) (y0 : Int32) (hI : IC σ) (h0_31 : 0 ≤ x6.toInt) (hm_31 : (2147483647 - x6.toInt).toNat < n_31 + 1) (hlt_31 : x6.toInt < 2147483647) : okp (Kq σ τ (fun _ => True)) (B_X11_maps_69 N rec_31 σ τ x1 x3 x4 x5 x6 y0) := by
  unfold B_X11_maps_69
  refine ok_nm (fun v_1 e_1 => ?_)
  refine ok_nm (fun v_2 e_2 => ?_)
  refine ok_bd (s_B_X8_nextSet_0 N hN σ τ x5 ((ks_rf σ).1.2 hI)) (fun r_3 σ_3 τ_3 hp_3 => ?_)
  have k_3 : KS σ σ_3 := ks_eq (ks_rf σ) hp_3.2.1
  have kj_3 : KJ τ τ_3 := kj_eq (kj_rf τ) hp_3.2.2
  refine ok_nm (fun v_4 e_4 => ?_)
  exact ok_mono (fun _ _ _ h9 => ⟨h9.1, ks_tr k_3 h9.2.1, kj_tr kj_3 h9.2.2⟩) (hrec_31 σ_3 τ_3 x1 y0 v_1 v_2 r_3 v_4 (k_3.1.2 hI) (by have : (0 : Int32).toInt = 0 := rfl; have : (1 : Int32).toInt = 1 := rfl; have := i32_rng v_4; have := i32_rng x6; have u_v_4 : v_4.toInt = (x6).toInt + 1 := (by rw [e_4]; have q := ti_add (a := x6) (b := 1) (by rw [show (1 : Int32).toInt = 1 from rfl]; omega) (by rw [show (1 : Int32).toInt = 1 from rfl]; omega); rw [q, show (1 : Int32).toInt = 1 from rfl]); omega) (by have : (1 : Int32).toInt = 1 := rfl; have := i32_rng v_4; have := i32_rng x6; have u_v_4 : v_4.toInt = (x6).toInt + 1 := (by rw [e_4]; have q := ti_add (a := x6) (b := 1) (by rw [show (1 : Int32).toInt = 1 from rfl]; omega) (by rw [show (1 : Int32).toInt = 1 from rfl]; omega); rw [q, show (1 : Int32).toInt = 1 from rfl]); omega))
set_option maxHeartbeats 2000000 in
theorem s_C_X11_maps_31 (N : Nat) (hN : 4294967296 ≤ N) (rec_31 : gI → gJ → Int32 → Int32 → Int32 → Int32 → Int32 → Int32 → Option (Int32 × gI × gJ)) (n_31 : Nat) (hrec_31 : ∀ (σ : gI) (τ : gJ) (x1 : Int32) (x2 : Int32) (x3 : Int32) (x4 : Int32) (x5 : Int32) (x6 : Int32), IC σ → (0 ≤ x6.toInt) → (2147483647 - x6.toInt).toNat < n_31 → okp (Kq σ τ (fun _ => True)) (rec_31 σ τ x1 x2 x3 x4 x5 x6)) (σ : gI) (τ : gJ) (x1 : Int32) (x2 : Int32) (x3 : Int32) (x4 : Int32) (x5 : Int32) (x6 : Int32) (hI : IC σ) (h0_31 : 0 ≤ x6.toInt) (hm_31 : (2147483647 - x6.toInt).toNat < n_31 + 1) : okp (Kq σ τ (fun _ => True)) (C_X11_maps_31 N rec_31 σ τ x1 x2 x3 x4 x5 x6) := by
  unfold C_X11_maps_31
  refine ok_ite (fun c_1 => ?_) (fun c_1 => ?_)
  · simp only [fa_lt, fa_le, fa_eq] at c_1
    refine ok_bd (s_B_X4_tell___0 N hN σ τ x2.toInt64 x3.toInt64 x4.toInt64 ((ks_rf σ).1.2 hI)) (fun _ σ_2 τ_2 hp_2 => ?_)
    have k_2 : KS σ σ_2 := ks_tr (ks_rf σ) hp_2.2.1
    have kj_2 : KJ τ τ_2 := kj_tr (kj_rf τ) hp_2.2.2
    exact ok_r ⟨trivial, k_2, kj_2⟩
  · simp only [fa_lt, fa_le, fa_eq] at c_1
    refine ok_bd (s_B_X9_fits_0 N hN σ τ x5 ((ks_rf σ).1.2 hI)) (fun r_3 σ_3 τ_3 hp_3 => ?_)
    have k_3 : KS σ σ_3 := ks_eq (ks_rf σ) hp_3.2.1
    have kj_3 : KJ τ τ_3 := kj_eq (kj_rf τ) hp_3.2.2
    refine ok_ite (fun c_2 => ?_) (fun c_2 => ?_)
    · simp only [fa_lt, fa_le, fa_eq] at c_2
      refine ok_bd (s_B_X8_nextSet_0 N hN σ_3 τ_3 x5 (k_3.1.2 hI)) (fun r_5 σ_5 τ_5 hp_5 => ?_)
      have k_5 : KS σ σ_5 := ks_eq k_3 hp_5.2.1
      have kj_5 : KJ τ τ_5 := kj_eq kj_3 hp_5.2.2
      refine ok_nm (fun v_6 e_6 => ?_)
      exact ok_mono (fun _ _ _ h9 => ⟨h9.1, ks_tr k_5 h9.2.1, kj_tr kj_5 h9.2.2⟩) (hrec_31 σ_5 τ_5 x1 x2 x3 x4 r_5 v_6 (k_5.1.2 hI) (by have : (0 : Int32).toInt = 0 := rfl; have : (1 : Int32).toInt = 1 := rfl; have : (3 : Int32).toInt = 3 := rfl; have : (8 : Int32).toInt = 8 := rfl; have := i32_rng (σ 3 8); have := i32_rng r_3; have := i32_rng v_6; have := i32_rng x6; have u_v_6 : v_6.toInt = (x6).toInt + 1 := (by rw [e_6]; have q := ti_add (a := x6) (b := 1) (by rw [show (1 : Int32).toInt = 1 from rfl]; omega) (by rw [show (1 : Int32).toInt = 1 from rfl]; omega); rw [q, show (1 : Int32).toInt = 1 from rfl]); omega) (by have : (0 : Int32).toInt = 0 := rfl; have : (1 : Int32).toInt = 1 := rfl; have : (3 : Int32).toInt = 3 := rfl; have : (8 : Int32).toInt = 8 := rfl; have := i32_rng (σ 3 8); have := i32_rng r_3; have := i32_rng v_6; have := i32_rng x6; have u_v_6 : v_6.toInt = (x6).toInt + 1 := (by rw [e_6]; have q := ti_add (a := x6) (b := 1) (by rw [show (1 : Int32).toInt = 1 from rfl]; omega) (by rw [show (1 : Int32).toInt = 1 from rfl]; omega); rw [q, show (1 : Int32).toInt = 1 from rfl]); omega))
    · simp only [fa_lt, fa_le, fa_eq] at c_2
      refine ok_nm (fun v_7 e_7 => ?_)
      refine ok_ite (fun c_3 => ?_) (fun c_3 => ?_)
      · simp only [fa_lt, fa_le, fa_eq] at c_3
        exact ok_mono (fun _ _ _ h9 => ⟨h9.1, ks_tr k_3 h9.2.1, kj_tr kj_3 h9.2.2⟩) (s_B_X11_maps_69 N hN rec_31 n_31 hrec_31 σ_3 τ_3 v_7 x3 x4 x5 x6 x5 (k_3.1.2 hI) (by have : (-1 : Int32).toInt = -1 := rfl; have : (0 : Int32).toInt = 0 := rfl; have : (3 : Int32).toInt = 3 := rfl; have : (8 : Int32).toInt = 8 := rfl; have := i32_rng (σ 3 8); have := i32_rng r_3; have := i32_rng x2; have := i32_rng x6; omega) (by have : (-1 : Int32).toInt = -1 := rfl; have : (0 : Int32).toInt = 0 := rfl; have : (1 : Int32).toInt = 1 := rfl; have : (3 : Int32).toInt = 3 := rfl; have : (8 : Int32).toInt = 8 := rfl; have := i32_rng (σ 3 8); have := i32_rng r_3; have := i32_rng x2; have := i32_rng x6; omega) (by have : (-1 : Int32).toInt = -1 := rfl; have : (0 : Int32).toInt = 0 := rfl; have : (3 : Int32).toInt = 3 := rfl; have : (8 : Int32).toInt = 8 := rfl; have := i32_rng (σ 3 8); have := i32_rng r_3; have := i32_rng x2; have := i32_rng x6; omega))
      · simp only [fa_lt, fa_le, fa_eq] at c_3
        exact ok_mono (fun _ _ _ h9 => ⟨h9.1, ks_tr k_3 h9.2.1, kj_tr kj_3 h9.2.2⟩) (s_B_X11_maps_69 N hN rec_31 n_31 hrec_31 σ_3 τ_3 v_7 x3 x4 x5 x6 x2 (k_3.1.2 hI) (by have : (-1 : Int32).toInt = -1 := rfl; have : (0 : Int32).toInt = 0 := rfl; have : (3 : Int32).toInt = 3 := rfl; have : (8 : Int32).toInt = 8 := rfl; have := i32_rng (σ 3 8); have := i32_rng r_3; have := i32_rng x2; have := i32_rng x6; omega) (by have : (-1 : Int32).toInt = -1 := rfl; have : (0 : Int32).toInt = 0 := rfl; have : (1 : Int32).toInt = 1 := rfl; have : (3 : Int32).toInt = 3 := rfl; have : (8 : Int32).toInt = 8 := rfl; have := i32_rng (σ 3 8); have := i32_rng r_3; have := i32_rng x2; have := i32_rng x6; omega) (by have : (-1 : Int32).toInt = -1 := rfl; have : (0 : Int32).toInt = 0 := rfl; have : (3 : Int32).toInt = 3 := rfl; have : (8 : Int32).toInt = 8 := rfl; have := i32_rng (σ 3 8); have := i32_rng r_3; have := i32_rng x2; have := i32_rng x6; omega))
theorem s_H_X11_maps_31 (N : Nat) (hN : 4294967296 ≤ N) : ∀ (n : Nat) (σ : gI) (τ : gJ) (x1 : Int32) (x2 : Int32) (x3 : Int32) (x4 : Int32) (x5 : Int32) (x6 : Int32), IC σ → (0 ≤ x6.toInt) → (2147483647 - x6.toInt).toNat < n → okp (Kq σ τ (fun _ => True)) (H_X11_maps_31 N n σ τ x1 x2 x3 x4 x5 x6) := by
  intro n
  induction n with
  | zero => intro σ τ x1 x2 x3 x4 x5 x6 _ _ hm; exact absurd hm (Nat.not_lt_zero _)
  | succ n ih =>
    intro σ τ x1 x2 x3 x4 x5 x6 hI h0_31 hm
    exact s_C_X11_maps_31 N hN (H_X11_maps_31 N n) n ih σ τ x1 x2 x3 x4 x5 x6 hI h0_31 hm
set_option maxHeartbeats 2000000 in
theorem s_B_X11_maps_0 (N : Nat) (hN : 4294967296 ≤ N) (σ : gI) (τ : gJ) (hI : IC σ) : okp (Kq σ τ (fun _ => True)) (B_X11_maps_0 N σ τ) := by
  unfold B_X11_maps_0
  refine ok_bd (s_B_X11_findFits_0 N hN σ τ ((ks_rf σ).1.2 hI)) (fun _ σ_1 τ_1 hp_1 => ?_)
  have k_1 : KS σ σ_1 := ks_tr (ks_rf σ) hp_1.2.1
  have kj_1 : KJ τ τ_1 := kj_tr (kj_rf τ) hp_1.2.2
  refine ok_nm (fun v_2 e_2 => ?_)
  refine ok_nm (fun v_3 e_3 => ?_)
  exact ok_mono (fun _ _ _ h9 => ⟨h9.1, ks_tr k_1 h9.2.1, kj_tr kj_1 h9.2.2⟩) (s_H_X11_maps_31 N hN N σ_1 τ_1 0 (-1) v_2 v_3 0 0 (k_1.1.2 hI) (by have : (0 : Int32).toInt = 0 := rfl; omega) (by have : (0 : Int32).toInt = 0 := rfl; omega))
set_option maxHeartbeats 2000000 in
theorem s_C_X11_marks_48 (N : Nat) (hN : 4294967296 ≤ N) (rec_33 : gI → gJ → Int32 → Int32 → Int32 → Int32 → Int32 → Int32 → Int32 → Option (Int32 × gI × gJ)) (n_33 : Nat) (hrec_33 : ∀ (σ : gI) (τ : gJ) (x1 : Int32) (x2 : Int32) (x3 : Int32) (x4 : Int32) (x5 : Int32) (x6 : Int32) (x7 : Int32), IC σ → (0 ≤ x7.toInt) → (2147483647 - x7.toInt).toNat < n_33 → okp (Kq σ τ (fun _ => True)) (rec_33 σ τ x1 x2 x3 x4 x5 x6 x7)) (rec_48 : gI → gJ → Int32 → Int32 → Int32 → Int32 → Int32 → Int32 → Int32 → Int32 → Option (Int32 × gI × gJ)) (n_48 : Nat) (hrec_48 : ∀ (σ : gI) (τ : gJ) (x1 : Int32) (x2 : Int32) (x3 : Int32) (x4 : Int32) (x5 : Int32) (x6 : Int32) (x7 : Int32) (x8 : Int32), IC σ → (0 ≤ x7.toInt) → ((2147483647 - x7.toInt).toNat < n_33 + 1) → (x7.toInt < 2147483647) → (0 ≤ x8.toInt) → (2147483647 - x8.toInt).toNat < n_48 → okp (Kq σ τ (fun _ => True)) (rec_48 σ τ x1 x2 x3 x4 x5 x6 x7 x8)) (σ : gI) (τ : gJ) (x1 : Int32) (x2 : Int32) (x3 : Int32) (x4 : Int32) (x5 : Int32) (x6 : Int32) (x7 : Int32) (x8 : Int32) (hI : IC σ) (h0_33 : 0 ≤ x7.toInt) (hm_33 : (2147483647 - x7.toInt).toNat < n_33 + 1) (hlt_33 : x7.toInt < 2147483647) (h0_48 : 0 ≤ x8.toInt) (hm_48 : (2147483647 - x8.toInt).toNat < n_48 + 1) : okp (Kq σ τ (fun _ => True)) (C_X11_marks_48 N rec_33 rec_48 σ τ x1 x2 x3 x4 x5 x6 x7 x8) := by
  unfold C_X11_marks_48
  refine ok_ite (fun c_1 => ?_) (fun c_1 => ?_)
  · simp only [fa_lt, fa_le, fa_eq] at c_1
    refine ok_nm (fun v_2 e_2 => ?_)
    exact ok_mono (fun _ _ _ h9 => ⟨h9.1, ks_tr (ks_rf σ) h9.2.1, kj_tr (kj_rf τ) h9.2.2⟩) (hrec_33 σ τ x1 x2 x3 x4 x5 x6 v_2 ((ks_rf σ).1.2 hI) (by have : (0 : Int32).toInt = 0 := rfl; have : (1 : Int32).toInt = 1 := rfl; have : (10 : Int32).toInt = 10 := rfl; have := i32_rng v_2; have := i32_rng x7; have := i32_rng x8; have u_v_2 : v_2.toInt = (x7).toInt + 1 := (by rw [e_2]; have q := ti_add (a := x7) (b := 1) (by rw [show (1 : Int32).toInt = 1 from rfl]; omega) (by rw [show (1 : Int32).toInt = 1 from rfl]; omega); rw [q, show (1 : Int32).toInt = 1 from rfl]); omega) (by have : (1 : Int32).toInt = 1 := rfl; have : (10 : Int32).toInt = 10 := rfl; have := i32_rng v_2; have := i32_rng x7; have := i32_rng x8; have u_v_2 : v_2.toInt = (x7).toInt + 1 := (by rw [e_2]; have q := ti_add (a := x7) (b := 1) (by rw [show (1 : Int32).toInt = 1 from rfl]; omega) (by rw [show (1 : Int32).toInt = 1 from rfl]; omega); rw [q, show (1 : Int32).toInt = 1 from rfl]); omega))
  · simp only [fa_lt, fa_le, fa_eq] at c_1
    refine ok_bd (s_B_X11_sailed_0 N hN σ τ x7 x1 x2 x8 ((ks_rf σ).1.2 hI)) (fun r_3 σ_3 τ_3 hp_3 => ?_)
    have k_3 : KS σ σ_3 := ks_tr (ks_rf σ) hp_3.2.1
    have kj_3 : KJ τ τ_3 := kj_tr (kj_rf τ) hp_3.2.2
    refine ok_ite (fun c_2 => ?_) (fun c_2 => ?_)
    · simp only [fa_lt, fa_le, fa_eq] at c_2
      refine ok_nm (fun v_5 e_5 => ?_)
      exact ok_mono (fun _ _ _ h9 => ⟨h9.1, ks_tr k_3 h9.2.1, kj_tr kj_3 h9.2.2⟩) (hrec_48 σ_3 τ_3 x1 x2 x3 x4 x5 x6 x7 v_5 (k_3.1.2 hI) (by have : (-1 : Int32).toInt = -1 := rfl; have : (0 : Int32).toInt = 0 := rfl; have : (10 : Int32).toInt = 10 := rfl; have := i32_rng r_3; have := i32_rng x7; have := i32_rng x8; omega) (by have : (-1 : Int32).toInt = -1 := rfl; have : (1 : Int32).toInt = 1 := rfl; have : (10 : Int32).toInt = 10 := rfl; have := i32_rng r_3; have := i32_rng x7; have := i32_rng x8; omega) (by have : (-1 : Int32).toInt = -1 := rfl; have : (10 : Int32).toInt = 10 := rfl; have := i32_rng r_3; have := i32_rng x7; have := i32_rng x8; omega) (by have : (-1 : Int32).toInt = -1 := rfl; have : (0 : Int32).toInt = 0 := rfl; have : (1 : Int32).toInt = 1 := rfl; have : (10 : Int32).toInt = 10 := rfl; have := i32_rng r_3; have := i32_rng v_5; have := i32_rng x7; have := i32_rng x8; have u_v_5 : v_5.toInt = (x8).toInt + 1 := (by rw [e_5]; have q := ti_add (a := x8) (b := 1) (by rw [show (1 : Int32).toInt = 1 from rfl]; omega) (by rw [show (1 : Int32).toInt = 1 from rfl]; omega); rw [q, show (1 : Int32).toInt = 1 from rfl]); omega) (by have : (-1 : Int32).toInt = -1 := rfl; have : (1 : Int32).toInt = 1 := rfl; have : (10 : Int32).toInt = 10 := rfl; have := i32_rng r_3; have := i32_rng v_5; have := i32_rng x7; have := i32_rng x8; have u_v_5 : v_5.toInt = (x8).toInt + 1 := (by rw [e_5]; have q := ti_add (a := x8) (b := 1) (by rw [show (1 : Int32).toInt = 1 from rfl]; omega) (by rw [show (1 : Int32).toInt = 1 from rfl]; omega); rw [q, show (1 : Int32).toInt = 1 from rfl]); omega))
    · simp only [fa_lt, fa_le, fa_eq] at c_2
      refine ok_bd (s_B_X6_trailOf_0 N hN 171 is_171 σ_3 τ_3 0 (k_3.1.2 hI)) (fun r_6 σ_6 τ_6 hp_6 => ?_)
      have k_6 : KS σ σ_6 := ks_eq k_3 hp_6.2.1
      have kj_6 : KJ τ τ_6 := kj_eq kj_3 hp_6.2.2
      refine ok_ite (fun c_3 => ?_) (fun c_3 => ?_)
      · simp only [fa_lt, fa_le, fa_eq] at c_3
        refine ok_ite (fun c_4 => ?_) (fun c_4 => ?_)
        · simp only [fa_lt, fa_le, fa_eq] at c_4
          refine ok_nm (fun v_13 e_13 => ?_)
          refine ok_nm (fun v_14 e_14 => ?_)
          refine ok_nm (fun v_15 e_15 => ?_)
          exact ok_mono (fun _ _ _ h9 => ⟨h9.1, ks_tr k_6 h9.2.1, kj_tr kj_6 h9.2.2⟩) (hrec_48 σ_6 τ_6 x1 x2 x3 v_13 v_14 x8 x7 v_15 (k_6.1.2 hI) (by have : (-1 : Int32).toInt = -1 := rfl; have : (0 : Int32).toInt = 0 := rfl; have : (10 : Int32).toInt = 10 := rfl; have := i32_rng r_3; have := i32_rng r_6; have := i32_rng x3; have := i32_rng x4; have := i32_rng x7; have := i32_rng x8; omega) (by have : (-1 : Int32).toInt = -1 := rfl; have : (0 : Int32).toInt = 0 := rfl; have : (1 : Int32).toInt = 1 := rfl; have : (10 : Int32).toInt = 10 := rfl; have := i32_rng r_3; have := i32_rng r_6; have := i32_rng x3; have := i32_rng x4; have := i32_rng x7; have := i32_rng x8; omega) (by have : (-1 : Int32).toInt = -1 := rfl; have : (0 : Int32).toInt = 0 := rfl; have : (10 : Int32).toInt = 10 := rfl; have := i32_rng r_3; have := i32_rng r_6; have := i32_rng x3; have := i32_rng x4; have := i32_rng x7; have := i32_rng x8; omega) (by have : (-1 : Int32).toInt = -1 := rfl; have : (0 : Int32).toInt = 0 := rfl; have : (1 : Int32).toInt = 1 := rfl; have : (10 : Int32).toInt = 10 := rfl; have := i32_rng r_3; have := i32_rng r_6; have := i32_rng v_15; have := i32_rng x3; have := i32_rng x4; have := i32_rng x7; have := i32_rng x8; have u_v_15 : v_15.toInt = (x8).toInt + 1 := (by rw [e_15]; have q := ti_add (a := x8) (b := 1) (by rw [show (1 : Int32).toInt = 1 from rfl]; omega) (by rw [show (1 : Int32).toInt = 1 from rfl]; omega); rw [q, show (1 : Int32).toInt = 1 from rfl]); omega) (by have : (-1 : Int32).toInt = -1 := rfl; have : (0 : Int32).toInt = 0 := rfl; have : (1 : Int32).toInt = 1 := rfl; have : (10 : Int32).toInt = 10 := rfl; have := i32_rng r_3; have := i32_rng r_6; have := i32_rng v_15; have := i32_rng x3; have := i32_rng x4; have := i32_rng x7; have := i32_rng x8; have u_v_15 : v_15.toInt = (x8).toInt + 1 := (by rw [e_15]; have q := ti_add (a := x8) (b := 1) (by rw [show (1 : Int32).toInt = 1 from rfl]; omega) (by rw [show (1 : Int32).toInt = 1 from rfl]; omega); rw [q, show (1 : Int32).toInt = 1 from rfl]); omega))
        · simp only [fa_lt, fa_le, fa_eq] at c_4
          refine ok_nm (fun v_10 e_10 => ?_)
          refine ok_nm (fun v_11 e_11 => ?_)
          refine ok_nm (fun v_12 e_12 => ?_)
          exact ok_mono (fun _ _ _ h9 => ⟨h9.1, ks_tr k_6 h9.2.1, kj_tr kj_6 h9.2.2⟩) (hrec_48 σ_6 τ_6 x1 x2 x3 v_10 v_11 x6 x7 v_12 (k_6.1.2 hI) (by have : (-1 : Int32).toInt = -1 := rfl; have : (0 : Int32).toInt = 0 := rfl; have : (10 : Int32).toInt = 10 := rfl; have := i32_rng r_3; have := i32_rng r_6; have := i32_rng x3; have := i32_rng x4; have := i32_rng x7; have := i32_rng x8; omega) (by have : (-1 : Int32).toInt = -1 := rfl; have : (0 : Int32).toInt = 0 := rfl; have : (1 : Int32).toInt = 1 := rfl; have : (10 : Int32).toInt = 10 := rfl; have := i32_rng r_3; have := i32_rng r_6; have := i32_rng x3; have := i32_rng x4; have := i32_rng x7; have := i32_rng x8; omega) (by have : (-1 : Int32).toInt = -1 := rfl; have : (0 : Int32).toInt = 0 := rfl; have : (10 : Int32).toInt = 10 := rfl; have := i32_rng r_3; have := i32_rng r_6; have := i32_rng x3; have := i32_rng x4; have := i32_rng x7; have := i32_rng x8; omega) (by have : (-1 : Int32).toInt = -1 := rfl; have : (0 : Int32).toInt = 0 := rfl; have : (1 : Int32).toInt = 1 := rfl; have : (10 : Int32).toInt = 10 := rfl; have := i32_rng r_3; have := i32_rng r_6; have := i32_rng v_12; have := i32_rng x3; have := i32_rng x4; have := i32_rng x7; have := i32_rng x8; have u_v_12 : v_12.toInt = (x8).toInt + 1 := (by rw [e_12]; have q := ti_add (a := x8) (b := 1) (by rw [show (1 : Int32).toInt = 1 from rfl]; omega) (by rw [show (1 : Int32).toInt = 1 from rfl]; omega); rw [q, show (1 : Int32).toInt = 1 from rfl]); omega) (by have : (-1 : Int32).toInt = -1 := rfl; have : (0 : Int32).toInt = 0 := rfl; have : (1 : Int32).toInt = 1 := rfl; have : (10 : Int32).toInt = 10 := rfl; have := i32_rng r_3; have := i32_rng r_6; have := i32_rng v_12; have := i32_rng x3; have := i32_rng x4; have := i32_rng x7; have := i32_rng x8; have u_v_12 : v_12.toInt = (x8).toInt + 1 := (by rw [e_12]; have q := ti_add (a := x8) (b := 1) (by rw [show (1 : Int32).toInt = 1 from rfl]; omega) (by rw [show (1 : Int32).toInt = 1 from rfl]; omega); rw [q, show (1 : Int32).toInt = 1 from rfl]); omega))
      · simp only [fa_lt, fa_le, fa_eq] at c_3
        refine ok_nm (fun v_8 e_8 => ?_)
        exact ok_mono (fun _ _ _ h9 => ⟨h9.1, ks_tr k_6 h9.2.1, kj_tr kj_6 h9.2.2⟩) (hrec_48 σ_6 τ_6 x1 x2 x3 x4 x5 x6 x7 v_8 (k_6.1.2 hI) (by have : (-1 : Int32).toInt = -1 := rfl; have : (0 : Int32).toInt = 0 := rfl; have : (10 : Int32).toInt = 10 := rfl; have := i32_rng r_3; have := i32_rng r_6; have := i32_rng x3; have := i32_rng x7; have := i32_rng x8; omega) (by have : (-1 : Int32).toInt = -1 := rfl; have : (1 : Int32).toInt = 1 := rfl; have : (10 : Int32).toInt = 10 := rfl; have := i32_rng r_3; have := i32_rng r_6; have := i32_rng x3; have := i32_rng x7; have := i32_rng x8; omega) (by have : (-1 : Int32).toInt = -1 := rfl; have : (10 : Int32).toInt = 10 := rfl; have := i32_rng r_3; have := i32_rng r_6; have := i32_rng x3; have := i32_rng x7; have := i32_rng x8; omega) (by have : (-1 : Int32).toInt = -1 := rfl; have : (0 : Int32).toInt = 0 := rfl; have : (1 : Int32).toInt = 1 := rfl; have : (10 : Int32).toInt = 10 := rfl; have := i32_rng r_3; have := i32_rng r_6; have := i32_rng v_8; have := i32_rng x3; have := i32_rng x7; have := i32_rng x8; have u_v_8 : v_8.toInt = (x8).toInt + 1 := (by rw [e_8]; have q := ti_add (a := x8) (b := 1) (by rw [show (1 : Int32).toInt = 1 from rfl]; omega) (by rw [show (1 : Int32).toInt = 1 from rfl]; omega); rw [q, show (1 : Int32).toInt = 1 from rfl]); omega) (by have : (-1 : Int32).toInt = -1 := rfl; have : (1 : Int32).toInt = 1 := rfl; have : (10 : Int32).toInt = 10 := rfl; have := i32_rng r_3; have := i32_rng r_6; have := i32_rng v_8; have := i32_rng x3; have := i32_rng x7; have := i32_rng x8; have u_v_8 : v_8.toInt = (x8).toInt + 1 := (by rw [e_8]; have q := ti_add (a := x8) (b := 1) (by rw [show (1 : Int32).toInt = 1 from rfl]; omega) (by rw [show (1 : Int32).toInt = 1 from rfl]; omega); rw [q, show (1 : Int32).toInt = 1 from rfl]); omega))
theorem s_H_X11_marks_48 (N : Nat) (hN : 4294967296 ≤ N) (rec_33 : gI → gJ → Int32 → Int32 → Int32 → Int32 → Int32 → Int32 → Int32 → Option (Int32 × gI × gJ)) (n_33 : Nat) (hrec_33 : ∀ (σ : gI) (τ : gJ) (x1 : Int32) (x2 : Int32) (x3 : Int32) (x4 : Int32) (x5 : Int32) (x6 : Int32) (x7 : Int32), IC σ → (0 ≤ x7.toInt) → (2147483647 - x7.toInt).toNat < n_33 → okp (Kq σ τ (fun _ => True)) (rec_33 σ τ x1 x2 x3 x4 x5 x6 x7)) : ∀ (n : Nat) (σ : gI) (τ : gJ) (x1 : Int32) (x2 : Int32) (x3 : Int32) (x4 : Int32) (x5 : Int32) (x6 : Int32) (x7 : Int32) (x8 : Int32), IC σ → (0 ≤ x7.toInt) → ((2147483647 - x7.toInt).toNat < n_33 + 1) → (x7.toInt < 2147483647) → (0 ≤ x8.toInt) → (2147483647 - x8.toInt).toNat < n → okp (Kq σ τ (fun _ => True)) (H_X11_marks_48 N rec_33 n σ τ x1 x2 x3 x4 x5 x6 x7 x8) := by
  intro n
  induction n with
  | zero => intro σ τ x1 x2 x3 x4 x5 x6 x7 x8 _ _ _ _ _ hm; exact absurd hm (Nat.not_lt_zero _)
  | succ n ih =>
    intro σ τ x1 x2 x3 x4 x5 x6 x7 x8 hI h0_33 hm_33 hlt_33 h0_48 hm
    exact s_C_X11_marks_48 N hN rec_33 n_33 hrec_33 (H_X11_marks_48 N rec_33 n) n ih σ τ x1 x2 x3 x4 x5 x6 x7 x8 hI h0_33 hm_33 hlt_33 h0_48 hm
set_option maxHeartbeats 2000000 in
theorem s_C_X11_marks_33 (N : Nat) (hN : 4294967296 ≤ N) (rec_33 : gI → gJ → Int32 → Int32 → Int32 → Int32 → Int32 → Int32 → Int32 → Option (Int32 × gI × gJ)) (n_33 : Nat) (hrec_33 : ∀ (σ : gI) (τ : gJ) (x1 : Int32) (x2 : Int32) (x3 : Int32) (x4 : Int32) (x5 : Int32) (x6 : Int32) (x7 : Int32), IC σ → (0 ≤ x7.toInt) → (2147483647 - x7.toInt).toNat < n_33 → okp (Kq σ τ (fun _ => True)) (rec_33 σ τ x1 x2 x3 x4 x5 x6 x7)) (σ : gI) (τ : gJ) (x1 : Int32) (x2 : Int32) (x3 : Int32) (x4 : Int32) (x5 : Int32) (x6 : Int32) (x7 : Int32) (hI : IC σ) (h0_33 : 0 ≤ x7.toInt) (hm_33 : (2147483647 - x7.toInt).toNat < n_33 + 1) : okp (Kq σ τ (fun _ => True)) (C_X11_marks_33 N rec_33 σ τ x1 x2 x3 x4 x5 x6 x7) := by
  unfold C_X11_marks_33
  refine ok_ite (fun c_1 => ?_) (fun c_1 => ?_)
  · simp only [fa_lt, fa_le, fa_eq] at c_1
    refine ok_ite (fun c_2 => ?_) (fun c_2 => ?_)
    · simp only [fa_lt, fa_le, fa_eq] at c_2
      refine ok_bd (s_B_X4_tell_0 N hN σ τ 0 ((ks_rf σ).1.2 hI)) (fun _ σ_5 τ_5 hp_5 => ?_)
      have k_5 : KS σ σ_5 := ks_tr (ks_rf σ) hp_5.2.1
      have kj_5 : KJ τ τ_5 := kj_tr (kj_rf τ) hp_5.2.2
      exact ok_r ⟨trivial, k_5, kj_5⟩
    · simp only [fa_lt, fa_le, fa_eq] at c_2
      refine ok_bd (s_B_X11_lowest_0 N hN σ τ x5 ((ks_rf σ).1.2 hI)) (fun r_3 σ_3 τ_3 hp_3 => ?_)
      have k_3 : KS σ σ_3 := ks_eq (ks_rf σ) hp_3.2.1
      have kj_3 : KJ τ τ_3 := kj_eq (kj_rf τ) hp_3.2.2
      refine ok_bd (s_B_X4_tell___0 N hN σ_3 τ_3 r_3.toInt64 x6.toInt64 x5.toInt64 (k_3.1.2 hI)) (fun _ σ_4 τ_4 hp_4 => ?_)
      have k_4 : KS σ σ_4 := ks_tr k_3 hp_4.2.1
      have kj_4 : KJ τ τ_4 := kj_tr kj_3 hp_4.2.2
      exact ok_r ⟨trivial, k_4, kj_4⟩
  · simp only [fa_lt, fa_le, fa_eq] at c_1
    exact ok_mono (fun _ _ _ h9 => ⟨h9.1, ks_tr (ks_rf σ) h9.2.1, kj_tr (kj_rf τ) h9.2.2⟩) (s_H_X11_marks_48 N hN rec_33 n_33 hrec_33 N σ τ x1 x2 x3 x4 x5 x6 x7 0 ((ks_rf σ).1.2 hI) (by have : (0 : Int32).toInt = 0 := rfl; have : (3 : Int32).toInt = 3 := rfl; have : (6 : Int32).toInt = 6 := rfl; have := i32_rng (σ 3 6); have := i32_rng x7; omega) (by have : (1 : Int32).toInt = 1 := rfl; have : (3 : Int32).toInt = 3 := rfl; have : (6 : Int32).toInt = 6 := rfl; have := i32_rng (σ 3 6); have := i32_rng x7; omega) (by have : (3 : Int32).toInt = 3 := rfl; have : (6 : Int32).toInt = 6 := rfl; have := i32_rng (σ 3 6); have := i32_rng x7; omega) (by have : (0 : Int32).toInt = 0 := rfl; have : (3 : Int32).toInt = 3 := rfl; have : (6 : Int32).toInt = 6 := rfl; have := i32_rng (σ 3 6); have := i32_rng x7; omega) (by have : (0 : Int32).toInt = 0 := rfl; have : (3 : Int32).toInt = 3 := rfl; have : (6 : Int32).toInt = 6 := rfl; have := i32_rng (σ 3 6); have := i32_rng x7; omega))
theorem s_H_X11_marks_33 (N : Nat) (hN : 4294967296 ≤ N) : ∀ (n : Nat) (σ : gI) (τ : gJ) (x1 : Int32) (x2 : Int32) (x3 : Int32) (x4 : Int32) (x5 : Int32) (x6 : Int32) (x7 : Int32), IC σ → (0 ≤ x7.toInt) → (2147483647 - x7.toInt).toNat < n → okp (Kq σ τ (fun _ => True)) (H_X11_marks_33 N n σ τ x1 x2 x3 x4 x5 x6 x7) := by
  intro n
  induction n with
  | zero => intro σ τ x1 x2 x3 x4 x5 x6 x7 _ _ hm; exact absurd hm (Nat.not_lt_zero _)
  | succ n ih =>
    intro σ τ x1 x2 x3 x4 x5 x6 x7 hI h0_33 hm
    exact s_C_X11_marks_33 N hN (H_X11_marks_33 N n) n ih σ τ x1 x2 x3 x4 x5 x6 x7 hI h0_33 hm
set_option maxHeartbeats 2000000 in
theorem s_B_X11_marks_0 (N : Nat) (hN : 4294967296 ≤ N) (σ : gI) (τ : gJ) (x1 : Int32) (x2 : Int32) (x3 : Int32) (hI : IC σ) : okp (Kq σ τ (fun _ => True)) (B_X11_marks_0 N σ τ x1 x2 x3) := by
  unfold B_X11_marks_0
  refine ok_bd (s_B_X11_isLoad_0 N hN σ τ x1 x2 ((ks_rf σ).1.2 hI)) (fun r_1 σ_1 τ_1 hp_1 => ?_)
  have k_1 : KS σ σ_1 := ks_eq (ks_rf σ) hp_1.2.1
  have kj_1 : KJ τ τ_1 := kj_eq (kj_rf τ) hp_1.2.2
  refine ok_ite (fun c_1 => ?_) (fun c_1 => ?_)
  · simp only [fa_lt, fa_le, fa_eq] at c_1
    exact ok_r ⟨trivial, k_1, kj_1⟩
  · simp only [fa_lt, fa_le, fa_eq] at c_1
    refine ok_ite (fun c_2 => ?_) (fun c_2 => ?_)
    · simp only [fa_lt, fa_le, fa_eq] at c_2
      exact ok_r ⟨trivial, k_1, kj_1⟩
    · simp only [fa_lt, fa_le, fa_eq] at c_2
      refine ok_ite (fun c_3 => ?_) (fun c_3 => ?_)
      · simp only [fa_lt, fa_le, fa_eq] at c_3
        exact ok_mono (fun _ _ _ h9 => ⟨h9.1, ks_tr k_1 h9.2.1, kj_tr kj_1 h9.2.2⟩) (s_H_X11_marks_33 N hN N σ_1 τ_1 x1 x2 x3 0 0 (-1) 0 (k_1.1.2 hI) (by have : (0 : Int32).toInt = 0 := rfl; have : (4096 : Int32).toInt = 4096 := rfl; have := i32_rng r_1; have := i32_rng x3; omega) (by have : (0 : Int32).toInt = 0 := rfl; have : (4096 : Int32).toInt = 4096 := rfl; have := i32_rng r_1; have := i32_rng x3; omega))
      · simp only [fa_lt, fa_le, fa_eq] at c_3
        exact ok_r ⟨trivial, k_1, kj_1⟩
set_option maxHeartbeats 2000000 in
theorem s_B_X9_tally_14 (N : Nat) (hN : 4294967296 ≤ N) (σ : gI) (τ : gJ) (hI : IC σ) : okp (Kq σ τ (fun _ => True)) (B_X9_tally_14 N σ τ) := by
  unfold B_X9_tally_14
  refine ok_nm (fun σ_1 e_1 => ?_)
  have k_1 : KS σ σ_1 := ks_up (ks_rf σ) e_1 (by omega) (by omega) (by omega)
  exact ok_r ⟨trivial, k_1, (kj_rf τ)⟩
set_option maxHeartbeats 2000000 in
theorem s_B_X9_tally_0 (N : Nat) (hN : 4294967296 ≤ N) (σ : gI) (τ : gJ) (x1 : Int32) (hI : IC σ) : okp (Kq σ τ (fun _ => True)) (B_X9_tally_0 N σ τ x1) := by
  unfold B_X9_tally_0
  refine ok_ite (fun c_1 => ?_) (fun c_1 => ?_)
  · simp only [fa_lt, fa_le, fa_eq] at c_1
    exact ok_mono (fun _ _ _ h9 => ⟨h9.1, ks_tr (ks_rf σ) h9.2.1, kj_tr (kj_rf τ) h9.2.2⟩) (s_B_X9_tally_14 N hN σ τ ((ks_rf σ).1.2 hI))
  · simp only [fa_lt, fa_le, fa_eq] at c_1
    refine ok_ite (fun c_2 => ?_) (fun c_2 => ?_)
    · simp only [fa_lt, fa_le, fa_eq] at c_2
      exact ok_mono (fun _ _ _ h9 => ⟨h9.1, ks_tr (ks_rf σ) h9.2.1, kj_tr (kj_rf τ) h9.2.2⟩) (s_B_X9_tally_14 N hN σ τ ((ks_rf σ).1.2 hI))
    · simp only [fa_lt, fa_le, fa_eq] at c_2
      refine ok_ck (by have : (0 : Int32).toInt = 0 := rfl; have : (12 : Int32).toInt = 12 := rfl; have : (13 : Int32).toInt = 13 := rfl; have := i32_rng x1; omega) (fun j_3 hj_3 lj_3 => ?_)
      refine ok_nm (fun σ_4 e_4 => ?_)
      have k_4 : KS σ σ_4 := ks_up (ks_rf σ) e_4 (by omega) (by omega) (by omega)
      exact ok_r ⟨trivial, k_4, (kj_rf τ)⟩
set_option maxHeartbeats 2000000 in
theorem s_C_X9_mostLeft_31 (N : Nat) (hN : 4294967296 ≤ N) (rec_31 : gI → gJ → Int32 → Int32 → Int32 → Option (Int32 × gI × gJ)) (n_31 : Nat) (hrec_31 : ∀ (σ : gI) (τ : gJ) (x1 : Int32) (x2 : Int32) (x3 : Int32), IC σ → (0 ≤ x3.toInt) → (2147483647 - x3.toInt).toNat < n_31 → okp (Kq σ τ (fun _ => True)) (rec_31 σ τ x1 x2 x3)) (σ : gI) (τ : gJ) (x1 : Int32) (x2 : Int32) (x3 : Int32) (hI : IC σ) (h0_31 : 0 ≤ x3.toInt) (hm_31 : (2147483647 - x3.toInt).toNat < n_31 + 1) : okp (Kq σ τ (fun _ => True)) (C_X9_mostLeft_31 N rec_31 σ τ x1 x2 x3) := by
  unfold C_X9_mostLeft_31
  refine ok_ite (fun c_1 => ?_) (fun c_1 => ?_)
  · simp only [fa_lt, fa_le, fa_eq] at c_1
    exact ok_r ⟨trivial, (ks_rf σ), (kj_rf τ)⟩
  · simp only [fa_lt, fa_le, fa_eq] at c_1
    refine ok_bd (s_B_X9_fits_0 N hN σ τ x2 ((ks_rf σ).1.2 hI)) (fun r_2 σ_2 τ_2 hp_2 => ?_)
    have k_2 : KS σ σ_2 := ks_eq (ks_rf σ) hp_2.2.1
    have kj_2 : KJ τ τ_2 := kj_eq (kj_rf τ) hp_2.2.2
    refine ok_ite (fun c_2 => ?_) (fun c_2 => ?_)
    · simp only [fa_lt, fa_le, fa_eq] at c_2
      refine ok_bd (s_B_X8_nextSet_0 N hN σ_2 τ_2 x2 (k_2.1.2 hI)) (fun r_4 σ_4 τ_4 hp_4 => ?_)
      have k_4 : KS σ σ_4 := ks_eq k_2 hp_4.2.1
      have kj_4 : KJ τ τ_4 := kj_eq kj_2 hp_4.2.2
      refine ok_nm (fun v_5 e_5 => ?_)
      exact ok_mono (fun _ _ _ h9 => ⟨h9.1, ks_tr k_4 h9.2.1, kj_tr kj_4 h9.2.2⟩) (hrec_31 σ_4 τ_4 x1 r_4 v_5 (k_4.1.2 hI) (by have : (0 : Int32).toInt = 0 := rfl; have : (1 : Int32).toInt = 1 := rfl; have : (3 : Int32).toInt = 3 := rfl; have : (8 : Int32).toInt = 8 := rfl; have := i32_rng (σ 3 8); have := i32_rng r_2; have := i32_rng v_5; have := i32_rng x3; have u_v_5 : v_5.toInt = (x3).toInt + 1 := (by rw [e_5]; have q := ti_add (a := x3) (b := 1) (by rw [show (1 : Int32).toInt = 1 from rfl]; omega) (by rw [show (1 : Int32).toInt = 1 from rfl]; omega); rw [q, show (1 : Int32).toInt = 1 from rfl]); omega) (by have : (0 : Int32).toInt = 0 := rfl; have : (1 : Int32).toInt = 1 := rfl; have : (3 : Int32).toInt = 3 := rfl; have : (8 : Int32).toInt = 8 := rfl; have := i32_rng (σ 3 8); have := i32_rng r_2; have := i32_rng v_5; have := i32_rng x3; have u_v_5 : v_5.toInt = (x3).toInt + 1 := (by rw [e_5]; have q := ti_add (a := x3) (b := 1) (by rw [show (1 : Int32).toInt = 1 from rfl]; omega) (by rw [show (1 : Int32).toInt = 1 from rfl]; omega); rw [q, show (1 : Int32).toInt = 1 from rfl]); omega))
    · simp only [fa_lt, fa_le, fa_eq] at c_2
      refine ok_bd (s_B_X9_outcome_0 N hN σ_2 τ_2 x2 (k_2.1.2 hI)) (fun r_6 σ_6 τ_6 hp_6 => ?_)
      have k_6 : KS σ σ_6 := ks_tr k_2 hp_6.2.1
      have kj_6 : KJ τ τ_6 := kj_tr kj_2 hp_6.2.2
      refine ok_bd (s_B_X11_kitchenOf_0 N hN σ_6 τ_6 r_6 (k_6.1.2 hI)) (fun r_7 σ_7 τ_7 hp_7 => ?_)
      have k_7 : KS σ σ_7 := ks_eq k_6 hp_7.2.1
      have kj_7 : KJ τ τ_7 := kj_eq kj_6 hp_7.2.2
      refine ok_bd (s_B_X9_tally_0 N hN σ_7 τ_7 r_7 (k_7.1.2 hI)) (fun r_8 σ_8 τ_8 hp_8 => ?_)
      have k_8 : KS σ σ_8 := ks_tr k_7 hp_8.2.1
      have kj_8 : KJ τ τ_8 := kj_tr kj_7 hp_8.2.2
      refine ok_nm (fun v_9 e_9 => ?_)
      refine ok_bd (s_B_X8_nextSet_0 N hN σ_8 τ_8 x2 (k_8.1.2 hI)) (fun r_10 σ_10 τ_10 hp_10 => ?_)
      have k_10 : KS σ σ_10 := ks_eq k_8 hp_10.2.1
      have kj_10 : KJ τ τ_10 := kj_eq kj_8 hp_10.2.2
      refine ok_nm (fun v_11 e_11 => ?_)
      exact ok_mono (fun _ _ _ h9 => ⟨h9.1, ks_tr k_10 h9.2.1, kj_tr kj_10 h9.2.2⟩) (hrec_31 σ_10 τ_10 v_9 r_10 v_11 (k_10.1.2 hI) (by have : (0 : Int32).toInt = 0 := rfl; have : (1 : Int32).toInt = 1 := rfl; have : (3 : Int32).toInt = 3 := rfl; have : (8 : Int32).toInt = 8 := rfl; have := i32_rng (σ 3 8); have := i32_rng r_2; have := i32_rng v_11; have := i32_rng x3; have u_v_11 : v_11.toInt = (x3).toInt + 1 := (by rw [e_11]; have q := ti_add (a := x3) (b := 1) (by rw [show (1 : Int32).toInt = 1 from rfl]; omega) (by rw [show (1 : Int32).toInt = 1 from rfl]; omega); rw [q, show (1 : Int32).toInt = 1 from rfl]); omega) (by have : (0 : Int32).toInt = 0 := rfl; have : (1 : Int32).toInt = 1 := rfl; have : (3 : Int32).toInt = 3 := rfl; have : (8 : Int32).toInt = 8 := rfl; have := i32_rng (σ 3 8); have := i32_rng r_2; have := i32_rng v_11; have := i32_rng x3; have u_v_11 : v_11.toInt = (x3).toInt + 1 := (by rw [e_11]; have q := ti_add (a := x3) (b := 1) (by rw [show (1 : Int32).toInt = 1 from rfl]; omega) (by rw [show (1 : Int32).toInt = 1 from rfl]; omega); rw [q, show (1 : Int32).toInt = 1 from rfl]); omega))
theorem s_H_X9_mostLeft_31 (N : Nat) (hN : 4294967296 ≤ N) : ∀ (n : Nat) (σ : gI) (τ : gJ) (x1 : Int32) (x2 : Int32) (x3 : Int32), IC σ → (0 ≤ x3.toInt) → (2147483647 - x3.toInt).toNat < n → okp (Kq σ τ (fun _ => True)) (H_X9_mostLeft_31 N n σ τ x1 x2 x3) := by
  intro n
  induction n with
  | zero => intro σ τ x1 x2 x3 _ _ hm; exact absurd hm (Nat.not_lt_zero _)
  | succ n ih =>
    intro σ τ x1 x2 x3 hI h0_31 hm
    exact s_C_X9_mostLeft_31 N hN (H_X9_mostLeft_31 N n) n ih σ τ x1 x2 x3 hI h0_31 hm
set_option maxHeartbeats 2000000 in
theorem s_C_X9_mostLeft_6 (N : Nat) (hN : 4294967296 ≤ N) (rec_6 : gI → gJ → Int32 → Option (Int32 × gI × gJ)) (n_6 : Nat) (hrec_6 : ∀ (σ : gI) (τ : gJ) (x1 : Int32), IC σ → (0 ≤ x1.toInt) → (2147483647 - x1.toInt).toNat < n_6 → okp (Kq σ τ (fun _ => True)) (rec_6 σ τ x1)) (σ : gI) (τ : gJ) (x1 : Int32) (hI : IC σ) (h0_6 : 0 ≤ x1.toInt) (hm_6 : (2147483647 - x1.toInt).toNat < n_6 + 1) : okp (Kq σ τ (fun _ => True)) (C_X9_mostLeft_6 N rec_6 σ τ x1) := by
  unfold C_X9_mostLeft_6
  refine ok_ite (fun c_1 => ?_) (fun c_1 => ?_)
  · simp only [fa_lt, fa_le, fa_eq] at c_1
    exact ok_mono (fun _ _ _ h9 => ⟨h9.1, ks_tr (ks_rf σ) h9.2.1, kj_tr (kj_rf τ) h9.2.2⟩) (s_H_X9_mostLeft_31 N hN N σ τ 0 0 0 ((ks_rf σ).1.2 hI) (by have : (0 : Int32).toInt = 0 := rfl; have : (12 : Int32).toInt = 12 := rfl; have := i32_rng x1; omega) (by have : (0 : Int32).toInt = 0 := rfl; have : (12 : Int32).toInt = 12 := rfl; have := i32_rng x1; omega))
  · simp only [fa_lt, fa_le, fa_eq] at c_1
    refine ok_ck (by have : (0 : Int32).toInt = 0 := rfl; have : (12 : Int32).toInt = 12 := rfl; have : (13 : Int32).toInt = 13 := rfl; have := i32_rng x1; omega) (fun j_2 hj_2 lj_2 => ?_)
    refine ok_nm (fun σ_3 e_3 => ?_)
    have k_3 : KS σ σ_3 := ks_up (ks_rf σ) e_3 (by omega) (by omega) (by omega)
    refine ok_nm (fun v_4 e_4 => ?_)
    exact ok_mono (fun _ _ _ h9 => ⟨h9.1, ks_tr k_3 h9.2.1, kj_tr (kj_rf τ) h9.2.2⟩) (hrec_6 σ_3 τ v_4 (k_3.1.2 hI) (by have : (0 : Int32).toInt = 0 := rfl; have : (1 : Int32).toInt = 1 := rfl; have : (12 : Int32).toInt = 12 := rfl; have := i32_rng v_4; have := i32_rng x1; have u_v_4 : v_4.toInt = (x1).toInt + 1 := (by rw [e_4]; have q := ti_add (a := x1) (b := 1) (by rw [show (1 : Int32).toInt = 1 from rfl]; omega) (by rw [show (1 : Int32).toInt = 1 from rfl]; omega); rw [q, show (1 : Int32).toInt = 1 from rfl]); omega) (by have : (1 : Int32).toInt = 1 := rfl; have : (12 : Int32).toInt = 12 := rfl; have := i32_rng v_4; have := i32_rng x1; have u_v_4 : v_4.toInt = (x1).toInt + 1 := (by rw [e_4]; have q := ti_add (a := x1) (b := 1) (by rw [show (1 : Int32).toInt = 1 from rfl]; omega) (by rw [show (1 : Int32).toInt = 1 from rfl]; omega); rw [q, show (1 : Int32).toInt = 1 from rfl]); omega))
theorem s_H_X9_mostLeft_6 (N : Nat) (hN : 4294967296 ≤ N) : ∀ (n : Nat) (σ : gI) (τ : gJ) (x1 : Int32), IC σ → (0 ≤ x1.toInt) → (2147483647 - x1.toInt).toNat < n → okp (Kq σ τ (fun _ => True)) (H_X9_mostLeft_6 N n σ τ x1) := by
  intro n
  induction n with
  | zero => intro σ τ x1 _ _ hm; exact absurd hm (Nat.not_lt_zero _)
  | succ n ih =>
    intro σ τ x1 hI h0_6 hm
    exact s_C_X9_mostLeft_6 N hN (H_X9_mostLeft_6 N n) n ih σ τ x1 hI h0_6 hm
set_option maxHeartbeats 2000000 in
theorem s_B_X9_mostLeft_0 (N : Nat) (hN : 4294967296 ≤ N) (σ : gI) (τ : gJ) (hI : IC σ) : okp (Kq σ τ (fun _ => True)) (B_X9_mostLeft_0 N σ τ) := by
  unfold B_X9_mostLeft_0
  refine ok_bd (s_B_X9_forgetSets_0 N hN σ τ ((ks_rf σ).1.2 hI)) (fun _ σ_1 τ_1 hp_1 => ?_)
  have k_1 : KS σ σ_1 := ks_tr (ks_rf σ) hp_1.2.1
  have kj_1 : KJ τ τ_1 := kj_tr (kj_rf τ) hp_1.2.2
  exact ok_mono (fun _ _ _ h9 => ⟨h9.1, ks_tr k_1 h9.2.1, kj_tr kj_1 h9.2.2⟩) (s_H_X9_mostLeft_6 N hN N σ_1 τ_1 0 (k_1.1.2 hI) (by have : (0 : Int32).toInt = 0 := rfl; omega) (by have : (0 : Int32).toInt = 0 := rfl; omega))
set_option maxHeartbeats 2000000 in
theorem s_C_X11_next_32 (N : Nat) (hN : 4294967296 ≤ N) (rec_32 : gI → gJ → Int32 → Int32 → Int32 → Int32 → Option (Int32 × gI × gJ)) (n_32 : Nat) (hrec_32 : ∀ (σ : gI) (τ : gJ) (x1 : Int32) (x2 : Int32) (x3 : Int32) (x4 : Int32), IC σ → (0 ≤ x4.toInt) → (2147483647 - x4.toInt).toNat < n_32 → okp (Kq σ τ (fun _ => True)) (rec_32 σ τ x1 x2 x3 x4)) (σ : gI) (τ : gJ) (x1 : Int32) (x2 : Int32) (x3 : Int32) (x4 : Int32) (hI : IC σ) (h0_32 : 0 ≤ x4.toInt) (hm_32 : (2147483647 - x4.toInt).toNat < n_32 + 1) : okp (Kq σ τ (fun _ => True)) (C_X11_next_32 N rec_32 σ τ x1 x2 x3 x4) := by
  unfold C_X11_next_32
  refine ok_ite (fun c_1 => ?_) (fun c_1 => ?_)
  · simp only [fa_lt, fa_le, fa_eq] at c_1
    refine ok_ite (fun c_2 => ?_) (fun c_2 => ?_)
    · simp only [fa_lt, fa_le, fa_eq] at c_2
      exact ok_r ⟨trivial, (ks_rf σ), (kj_rf τ)⟩
    · simp only [fa_lt, fa_le, fa_eq] at c_2
      refine ok_bd (s_B_X4_tell_0 N hN σ τ x3.toInt64 ((ks_rf σ).1.2 hI)) (fun _ σ_3 τ_3 hp_3 => ?_)
      have k_3 : KS σ σ_3 := ks_tr (ks_rf σ) hp_3.2.1
      have kj_3 : KJ τ τ_3 := kj_tr (kj_rf τ) hp_3.2.2
      exact ok_r ⟨trivial, k_3, kj_3⟩
  · simp only [fa_lt, fa_le, fa_eq] at c_1
    refine ok_bd (s_B_X9_thinkOf_0 N hN σ τ x4 99 0 0 x1 ((ks_rf σ).1.2 hI)) (fun _ σ_4 τ_4 hp_4 => ?_)
    have k_4 : KS σ σ_4 := ks_tr (ks_rf σ) hp_4.2.1
    have kj_4 : KJ τ τ_4 := kj_tr (kj_rf τ) hp_4.2.2
    refine ok_bd (s_B_X9_mostLeft_0 N hN σ_4 τ_4 (k_4.1.2 hI)) (fun r_5 σ_5 τ_5 hp_5 => ?_)
    have k_5 : KS σ σ_5 := ks_tr k_4 hp_5.2.1
    have kj_5 : KJ τ τ_5 := kj_tr kj_4 hp_5.2.2
    refine ok_ite (fun c_3 => ?_) (fun c_3 => ?_)
    · simp only [fa_lt, fa_le, fa_eq] at c_3
      refine ok_nm (fun v_7 e_7 => ?_)
      exact ok_mono (fun _ _ _ h9 => ⟨h9.1, ks_tr k_5 h9.2.1, kj_tr kj_5 h9.2.2⟩) (hrec_32 σ_5 τ_5 x1 x2 x3 v_7 (k_5.1.2 hI) (by have : (0 : Int32).toInt = 0 := rfl; have : (1 : Int32).toInt = 1 := rfl; have : (3 : Int32).toInt = 3 := rfl; have : (6 : Int32).toInt = 6 := rfl; have := i32_rng (σ 3 6); have := i32_rng r_5; have := i32_rng v_7; have := i32_rng x3; have := i32_rng x4; have u_v_7 : v_7.toInt = (x4).toInt + 1 := (by rw [e_7]; have q := ti_add (a := x4) (b := 1) (by rw [show (1 : Int32).toInt = 1 from rfl]; omega) (by rw [show (1 : Int32).toInt = 1 from rfl]; omega); rw [q, show (1 : Int32).toInt = 1 from rfl]); omega) (by have : (1 : Int32).toInt = 1 := rfl; have : (3 : Int32).toInt = 3 := rfl; have : (6 : Int32).toInt = 6 := rfl; have := i32_rng (σ 3 6); have := i32_rng r_5; have := i32_rng v_7; have := i32_rng x3; have := i32_rng x4; have u_v_7 : v_7.toInt = (x4).toInt + 1 := (by rw [e_7]; have q := ti_add (a := x4) (b := 1) (by rw [show (1 : Int32).toInt = 1 from rfl]; omega) (by rw [show (1 : Int32).toInt = 1 from rfl]; omega); rw [q, show (1 : Int32).toInt = 1 from rfl]); omega))
    · simp only [fa_lt, fa_le, fa_eq] at c_3
      refine ok_nm (fun v_8 e_8 => ?_)
      exact ok_mono (fun _ _ _ h9 => ⟨h9.1, ks_tr k_5 h9.2.1, kj_tr kj_5 h9.2.2⟩) (hrec_32 σ_5 τ_5 x1 x4 r_5 v_8 (k_5.1.2 hI) (by have : (0 : Int32).toInt = 0 := rfl; have : (1 : Int32).toInt = 1 := rfl; have : (3 : Int32).toInt = 3 := rfl; have : (6 : Int32).toInt = 6 := rfl; have := i32_rng (σ 3 6); have := i32_rng r_5; have := i32_rng v_8; have := i32_rng x3; have := i32_rng x4; have u_v_8 : v_8.toInt = (x4).toInt + 1 := (by rw [e_8]; have q := ti_add (a := x4) (b := 1) (by rw [show (1 : Int32).toInt = 1 from rfl]; omega) (by rw [show (1 : Int32).toInt = 1 from rfl]; omega); rw [q, show (1 : Int32).toInt = 1 from rfl]); omega) (by have : (1 : Int32).toInt = 1 := rfl; have : (3 : Int32).toInt = 3 := rfl; have : (6 : Int32).toInt = 6 := rfl; have := i32_rng (σ 3 6); have := i32_rng r_5; have := i32_rng v_8; have := i32_rng x3; have := i32_rng x4; have u_v_8 : v_8.toInt = (x4).toInt + 1 := (by rw [e_8]; have q := ti_add (a := x4) (b := 1) (by rw [show (1 : Int32).toInt = 1 from rfl]; omega) (by rw [show (1 : Int32).toInt = 1 from rfl]; omega); rw [q, show (1 : Int32).toInt = 1 from rfl]); omega))
theorem s_H_X11_next_32 (N : Nat) (hN : 4294967296 ≤ N) : ∀ (n : Nat) (σ : gI) (τ : gJ) (x1 : Int32) (x2 : Int32) (x3 : Int32) (x4 : Int32), IC σ → (0 ≤ x4.toInt) → (2147483647 - x4.toInt).toNat < n → okp (Kq σ τ (fun _ => True)) (H_X11_next_32 N n σ τ x1 x2 x3 x4) := by
  intro n
  induction n with
  | zero => intro σ τ x1 x2 x3 x4 _ _ hm; exact absurd hm (Nat.not_lt_zero _)
  | succ n ih =>
    intro σ τ x1 x2 x3 x4 hI h0_32 hm
    exact s_C_X11_next_32 N hN (H_X11_next_32 N n) n ih σ τ x1 x2 x3 x4 hI h0_32 hm
set_option maxHeartbeats 2000000 in
theorem s_B_X11_next_0 (N : Nat) (hN : 4294967296 ≤ N) (σ : gI) (τ : gJ) (x1 : Int32) (hI : IC σ) : okp (Kq σ τ (fun _ => True)) (B_X11_next_0 N σ τ x1) := by
  unfold B_X11_next_0
  refine ok_ite (fun c_1 => ?_) (fun c_1 => ?_)
  · simp only [fa_lt, fa_le, fa_eq] at c_1
    exact ok_r ⟨trivial, (ks_rf σ), (kj_rf τ)⟩
  · simp only [fa_lt, fa_le, fa_eq] at c_1
    refine ok_bd (s_B_X11_isCorkMinute_0 N hN σ τ x1 ((ks_rf σ).1.2 hI)) (fun r_2 σ_2 τ_2 hp_2 => ?_)
    have k_2 : KS σ σ_2 := ks_eq (ks_rf σ) hp_2.2.1
    have kj_2 : KJ τ τ_2 := kj_eq (kj_rf τ) hp_2.2.2
    refine ok_ite (fun c_2 => ?_) (fun c_2 => ?_)
    · simp only [fa_lt, fa_le, fa_eq] at c_2
      exact ok_r ⟨trivial, k_2, kj_2⟩
    · simp only [fa_lt, fa_le, fa_eq] at c_2
      refine ok_bd (s_B_X11_findFits_0 N hN σ_2 τ_2 (k_2.1.2 hI)) (fun _ σ_4 τ_4 hp_4 => ?_)
      have k_4 : KS σ σ_4 := ks_tr k_2 hp_4.2.1
      have kj_4 : KJ τ τ_4 := kj_tr kj_2 hp_4.2.2
      exact ok_mono (fun _ _ _ h9 => ⟨h9.1, ks_tr k_4 h9.2.1, kj_tr kj_4 h9.2.2⟩) (s_H_X11_next_32 N hN N σ_4 τ_4 x1 (-1) 4097 0 (k_4.1.2 hI) (by have : (0 : Int32).toInt = 0 := rfl; have : (3 : Int32).toInt = 3 := rfl; have : (6 : Int32).toInt = 6 := rfl; have := i32_rng (σ 3 6); have := i32_rng r_2; omega) (by have : (0 : Int32).toInt = 0 := rfl; have : (3 : Int32).toInt = 3 := rfl; have : (6 : Int32).toInt = 6 := rfl; have := i32_rng (σ 3 6); have := i32_rng r_2; omega))
set_option maxHeartbeats 2000000 in
theorem s_C_X11_weightOf_5 (N : Nat) (hN : 4294967296 ≤ N) (rec_5 : gI → gJ → Int32 → Int32 → Int32 → Int32 → Int32 → Option (Int32 × gI × gJ)) (n_5 : Nat) (hrec_5 : ∀ (σ : gI) (τ : gJ) (x0 : Int32) (x1 : Int32) (x2 : Int32) (x3 : Int32) (x4 : Int32), IC σ → (0 ≤ x4.toInt) → (2147483647 - x4.toInt).toNat < n_5 → okp (Kqe σ τ (fun _ => True)) (rec_5 σ τ x0 x1 x2 x3 x4)) (σ : gI) (τ : gJ) (x0 : Int32) (x1 : Int32) (x2 : Int32) (x3 : Int32) (x4 : Int32) (hI : IC σ) (h0_5 : 0 ≤ x4.toInt) (hm_5 : (2147483647 - x4.toInt).toNat < n_5 + 1) : okp (Kqe σ τ (fun _ => True)) (C_X11_weightOf_5 N rec_5 σ τ x0 x1 x2 x3 x4) := by
  unfold C_X11_weightOf_5
  refine ok_ite (fun c_1 => ?_) (fun c_1 => ?_)
  · simp only [fa_lt, fa_le, fa_eq] at c_1
    exact ok_r ⟨trivial, (Eq.refl σ), (Eq.refl τ)⟩
  · simp only [fa_lt, fa_le, fa_eq] at c_1
    refine ok_ite (fun c_2 => ?_) (fun c_2 => ?_)
    · simp only [fa_lt, fa_le, fa_eq] at c_2
      refine ok_nm (fun v_3 e_3 => ?_)
      refine ok_nm (fun v_4 e_4 => ?_)
      exact ok_mono (fun _ _ _ h9 => ⟨h9.1, h9.2.1.trans (Eq.refl σ), h9.2.2.trans (Eq.refl τ)⟩) (hrec_5 σ τ x0 x1 x2 v_3 v_4 ((ic_eq (Eq.refl σ)) hI) (by have : (0 : Int32).toInt = 0 := rfl; have : (1 : Int32).toInt = 1 := rfl; have : (31 : Int32).toInt = 31 := rfl; have := i32_rng v_4; have := i32_rng x0; have := i32_rng x1; have := i32_rng x4; have u_v_4 : v_4.toInt = (x4).toInt + 1 := (by rw [e_4]; have q := ti_add (a := x4) (b := 1) (by rw [show (1 : Int32).toInt = 1 from rfl]; omega) (by rw [show (1 : Int32).toInt = 1 from rfl]; omega); rw [q, show (1 : Int32).toInt = 1 from rfl]); omega) (by have : (0 : Int32).toInt = 0 := rfl; have : (1 : Int32).toInt = 1 := rfl; have : (31 : Int32).toInt = 31 := rfl; have := i32_rng v_4; have := i32_rng x0; have := i32_rng x1; have := i32_rng x4; have u_v_4 : v_4.toInt = (x4).toInt + 1 := (by rw [e_4]; have q := ti_add (a := x4) (b := 1) (by rw [show (1 : Int32).toInt = 1 from rfl]; omega) (by rw [show (1 : Int32).toInt = 1 from rfl]; omega); rw [q, show (1 : Int32).toInt = 1 from rfl]); omega))
    · simp only [fa_lt, fa_le, fa_eq] at c_2
      refine ok_nm (fun v_5 e_5 => ?_)
      refine ok_nm (fun v_6 e_6 => ?_)
      exact ok_mono (fun _ _ _ h9 => ⟨h9.1, h9.2.1.trans (Eq.refl σ), h9.2.2.trans (Eq.refl τ)⟩) (hrec_5 σ τ x0 x1 x2 v_5 v_6 ((ic_eq (Eq.refl σ)) hI) (by have : (0 : Int32).toInt = 0 := rfl; have : (1 : Int32).toInt = 1 := rfl; have : (31 : Int32).toInt = 31 := rfl; have := i32_rng v_6; have := i32_rng x0; have := i32_rng x1; have := i32_rng x4; have u_v_6 : v_6.toInt = (x4).toInt + 1 := (by rw [e_6]; have q := ti_add (a := x4) (b := 1) (by rw [show (1 : Int32).toInt = 1 from rfl]; omega) (by rw [show (1 : Int32).toInt = 1 from rfl]; omega); rw [q, show (1 : Int32).toInt = 1 from rfl]); omega) (by have : (0 : Int32).toInt = 0 := rfl; have : (1 : Int32).toInt = 1 := rfl; have : (31 : Int32).toInt = 31 := rfl; have := i32_rng v_6; have := i32_rng x0; have := i32_rng x1; have := i32_rng x4; have u_v_6 : v_6.toInt = (x4).toInt + 1 := (by rw [e_6]; have q := ti_add (a := x4) (b := 1) (by rw [show (1 : Int32).toInt = 1 from rfl]; omega) (by rw [show (1 : Int32).toInt = 1 from rfl]; omega); rw [q, show (1 : Int32).toInt = 1 from rfl]); omega))
theorem s_H_X11_weightOf_5 (N : Nat) (hN : 4294967296 ≤ N) : ∀ (n : Nat) (σ : gI) (τ : gJ) (x0 : Int32) (x1 : Int32) (x2 : Int32) (x3 : Int32) (x4 : Int32), IC σ → (0 ≤ x4.toInt) → (2147483647 - x4.toInt).toNat < n → okp (Kqe σ τ (fun _ => True)) (H_X11_weightOf_5 N n σ τ x0 x1 x2 x3 x4) := by
  intro n
  induction n with
  | zero => intro σ τ x0 x1 x2 x3 x4 _ _ hm; exact absurd hm (Nat.not_lt_zero _)
  | succ n ih =>
    intro σ τ x0 x1 x2 x3 x4 hI h0_5 hm
    exact s_C_X11_weightOf_5 N hN (H_X11_weightOf_5 N n) n ih σ τ x0 x1 x2 x3 x4 hI h0_5 hm
set_option maxHeartbeats 2000000 in
theorem s_B_X11_weightOf_0 (N : Nat) (hN : 4294967296 ≤ N) (σ : gI) (τ : gJ) (x0 : Int32) (x1 : Int32) (x2 : Int32) (hI : IC σ) : okp (Kqe σ τ (fun _ => True)) (B_X11_weightOf_0 N σ τ x0 x1 x2) := by
  unfold B_X11_weightOf_0
  exact ok_mono (fun _ _ _ h9 => ⟨h9.1, h9.2.1.trans (Eq.refl σ), h9.2.2.trans (Eq.refl τ)⟩) (s_H_X11_weightOf_5 N hN N σ τ x0 x1 x2 1 0 ((ic_eq (Eq.refl σ)) hI) (by have : (0 : Int32).toInt = 0 := rfl; omega) (by have : (0 : Int32).toInt = 0 := rfl; omega))
set_option maxHeartbeats 2000000 in
theorem s_C_X11_odds_124 (N : Nat) (hN : 4294967296 ≤ N) (rec_124 : gI → gJ → Int32 → Int32 → Int32 → Int32 → Int32 → Int32 → Int32 → Option (Int32 × gI × gJ)) (n_124 : Nat) (hrec_124 : ∀ (σ : gI) (τ : gJ) (x1 : Int32) (x2 : Int32) (x3 : Int32) (x5 : Int32) (x6 : Int32) (x7 : Int32) (x8 : Int32), IC σ → (0 ≤ x8.toInt) → (2147483647 - x8.toInt).toNat < n_124 → okp (Kq σ τ (fun _ => True)) (rec_124 σ τ x1 x2 x3 x5 x6 x7 x8)) (σ : gI) (τ : gJ) (x1 : Int32) (x2 : Int32) (x3 : Int32) (x5 : Int32) (x6 : Int32) (x7 : Int32) (x8 : Int32) (hI : IC σ) (h0_124 : 0 ≤ x8.toInt) (hm_124 : (2147483647 - x8.toInt).toNat < n_124 + 1) : okp (Kq σ τ (fun _ => True)) (C_X11_odds_124 N rec_124 σ τ x1 x2 x3 x5 x6 x7 x8) := by
  unfold C_X11_odds_124
  refine ok_ite (fun c_1 => ?_) (fun c_1 => ?_)
  · simp only [fa_lt, fa_le, fa_eq] at c_1
    refine ok_nm (fun σ_2 e_2 => ?_)
    have k_2 : KS σ σ_2 := ks_up (ks_rf σ) e_2 (by omega) (by omega) (by omega)
    refine ok_bd (s_B_X11_commonDivisor_0 N hN σ_2 τ x6 x7 (k_2.1.2 hI)) (fun r_3 σ_3 τ_3 hp_3 => ?_)
    have k_3 : KS σ σ_3 := ks_eq k_2 hp_3.2.1
    have kj_3 : KJ τ τ_3 := kj_eq (kj_rf τ) hp_3.2.2
    have hb_3 :  1 ≤ r_3.toInt := hp_3.1
    refine ok_dz (fun h9 => by have h8 := (fa_eq _ _).mp h9; rw [show (0 : Int32).toInt = 0 from rfl] at h8; exact absurd h8 (by have : (0 : Int32).toInt = 0 := rfl; have : (1 : Int32).toInt = 1 := rfl; have : (31 : Int32).toInt = 31 := rfl; have := i32_rng r_3; have := i32_rng x5; have := i32_rng x8; have := i32_rng (1 <<< (x5 &&& 31)); omega)) ?_
    refine ok_dz (fun h9 => by have h8 := (fa_eq _ _).mp h9; rw [show (0 : Int32).toInt = 0 from rfl] at h8; exact absurd h8 (by have : (0 : Int32).toInt = 0 := rfl; have : (1 : Int32).toInt = 1 := rfl; have : (31 : Int32).toInt = 31 := rfl; have := i32_rng r_3; have := i32_rng x5; have := i32_rng x8; have := i32_rng (1 <<< (x5 &&& 31)); omega)) ?_
    refine ok_bd (s_B_X4_tell__0 N hN σ_3 τ_3 ((x6 / r_3).toInt64) ((x7 / r_3).toInt64) (k_3.1.2 hI)) (fun _ σ_6 τ_6 hp_6 => ?_)
    have k_6 : KS σ σ_6 := ks_tr k_3 hp_6.2.1
    have kj_6 : KJ τ τ_6 := kj_tr kj_3 hp_6.2.2
    exact ok_r ⟨trivial, k_6, kj_6⟩
  · simp only [fa_lt, fa_le, fa_eq] at c_1
    refine ok_bd (s_B_X11_weightOf_0 N hN σ τ x8 x5 x3 ((ks_rf σ).1.2 hI)) (fun r_7 σ_7 τ_7 hp_7 => ?_)
    have k_7 : KS σ σ_7 := ks_eq (ks_rf σ) hp_7.2.1
    have kj_7 : KJ τ τ_7 := kj_eq (kj_rf τ) hp_7.2.2
    refine ok_ite (fun c_2 => ?_) (fun c_2 => ?_)
    · simp only [fa_lt, fa_le, fa_eq] at c_2
      refine ok_nm (fun v_9 e_9 => ?_)
      exact ok_mono (fun _ _ _ h9 => ⟨h9.1, ks_tr k_7 h9.2.1, kj_tr kj_7 h9.2.2⟩) (hrec_124 σ_7 τ_7 x1 x2 x3 x5 x6 x7 v_9 (k_7.1.2 hI) (by have : (0 : Int32).toInt = 0 := rfl; have : (1 : Int32).toInt = 1 := rfl; have : (31 : Int32).toInt = 31 := rfl; have := i32_rng r_7; have := i32_rng v_9; have := i32_rng x5; have := i32_rng x8; have := i32_rng (1 <<< (x5 &&& 31)); have u_v_9 : v_9.toInt = (x8).toInt + 1 := (by rw [e_9]; have q := ti_add (a := x8) (b := 1) (by rw [show (1 : Int32).toInt = 1 from rfl]; omega) (by rw [show (1 : Int32).toInt = 1 from rfl]; omega); rw [q, show (1 : Int32).toInt = 1 from rfl]); omega) (by have : (0 : Int32).toInt = 0 := rfl; have : (1 : Int32).toInt = 1 := rfl; have : (31 : Int32).toInt = 31 := rfl; have := i32_rng r_7; have := i32_rng v_9; have := i32_rng x5; have := i32_rng x8; have := i32_rng (1 <<< (x5 &&& 31)); have u_v_9 : v_9.toInt = (x8).toInt + 1 := (by rw [e_9]; have q := ti_add (a := x8) (b := 1) (by rw [show (1 : Int32).toInt = 1 from rfl]; omega) (by rw [show (1 : Int32).toInt = 1 from rfl]; omega); rw [q, show (1 : Int32).toInt = 1 from rfl]); omega))
    · simp only [fa_lt, fa_le, fa_eq] at c_2
      refine ok_nm (fun σ_10 e_10 => ?_)
      have k_10 : KS σ σ_10 := ks_up k_7 e_10 (by omega) (by omega) (by omega)
      refine ok_bd (s_B_X9_goOn_0 N hN σ_10 τ_7 x2 (k_10.1.2 hI)) (fun _ σ_11 τ_11 hp_11 => ?_)
      have k_11 : KS σ σ_11 := ks_tr k_10 hp_11.2.1
      have kj_11 : KJ τ τ_11 := kj_tr kj_7 hp_11.2.2
      refine ok_bd (s_B_X6_fateOf_0 N hN 171 is_171 σ_11 τ_11 x1 (k_11.1.2 hI)) (fun r_12 σ_12 τ_12 hp_12 => ?_)
      have k_12 : KS σ σ_12 := ks_eq k_11 hp_12.2.1
      have kj_12 : KJ τ τ_12 := kj_eq kj_11 hp_12.2.2
      refine ok_ite (fun c_3 => ?_) (fun c_3 => ?_)
      · simp only [fa_lt, fa_le, fa_eq] at c_3
        refine ok_nm (fun v_16 e_16 => ?_)
        refine ok_nm (fun v_17 e_17 => ?_)
        exact ok_mono (fun _ _ _ h9 => ⟨h9.1, ks_tr k_12 h9.2.1, kj_tr kj_12 h9.2.2⟩) (hrec_124 σ_12 τ_12 x1 x2 x3 x5 v_16 x7 v_17 (k_12.1.2 hI) (by have : (0 : Int32).toInt = 0 := rfl; have : (1 : Int32).toInt = 1 := rfl; have : (31 : Int32).toInt = 31 := rfl; have := i32_rng r_12; have := i32_rng r_7; have := i32_rng v_17; have := i32_rng x5; have := i32_rng x8; have := i32_rng (1 <<< (x5 &&& 31)); have u_v_17 : v_17.toInt = (x8).toInt + 1 := (by rw [e_17]; have q := ti_add (a := x8) (b := 1) (by rw [show (1 : Int32).toInt = 1 from rfl]; omega) (by rw [show (1 : Int32).toInt = 1 from rfl]; omega); rw [q, show (1 : Int32).toInt = 1 from rfl]); omega) (by have : (0 : Int32).toInt = 0 := rfl; have : (1 : Int32).toInt = 1 := rfl; have : (31 : Int32).toInt = 31 := rfl; have := i32_rng r_12; have := i32_rng r_7; have := i32_rng v_17; have := i32_rng x5; have := i32_rng x8; have := i32_rng (1 <<< (x5 &&& 31)); have u_v_17 : v_17.toInt = (x8).toInt + 1 := (by rw [e_17]; have q := ti_add (a := x8) (b := 1) (by rw [show (1 : Int32).toInt = 1 from rfl]; omega) (by rw [show (1 : Int32).toInt = 1 from rfl]; omega); rw [q, show (1 : Int32).toInt = 1 from rfl]); omega))
      · simp only [fa_lt, fa_le, fa_eq] at c_3
        refine ok_nm (fun v_14 e_14 => ?_)
        refine ok_nm (fun v_15 e_15 => ?_)
        exact ok_mono (fun _ _ _ h9 => ⟨h9.1, ks_tr k_12 h9.2.1, kj_tr kj_12 h9.2.2⟩) (hrec_124 σ_12 τ_12 x1 x2 x3 x5 v_14 x7 v_15 (k_12.1.2 hI) (by have : (0 : Int32).toInt = 0 := rfl; have : (1 : Int32).toInt = 1 := rfl; have : (31 : Int32).toInt = 31 := rfl; have := i32_rng r_12; have := i32_rng r_7; have := i32_rng v_15; have := i32_rng x5; have := i32_rng x8; have := i32_rng (1 <<< (x5 &&& 31)); have u_v_15 : v_15.toInt = (x8).toInt + 1 := (by rw [e_15]; have q := ti_add (a := x8) (b := 1) (by rw [show (1 : Int32).toInt = 1 from rfl]; omega) (by rw [show (1 : Int32).toInt = 1 from rfl]; omega); rw [q, show (1 : Int32).toInt = 1 from rfl]); omega) (by have : (0 : Int32).toInt = 0 := rfl; have : (1 : Int32).toInt = 1 := rfl; have : (31 : Int32).toInt = 31 := rfl; have := i32_rng r_12; have := i32_rng r_7; have := i32_rng v_15; have := i32_rng x5; have := i32_rng x8; have := i32_rng (1 <<< (x5 &&& 31)); have u_v_15 : v_15.toInt = (x8).toInt + 1 := (by rw [e_15]; have q := ti_add (a := x8) (b := 1) (by rw [show (1 : Int32).toInt = 1 from rfl]; omega) (by rw [show (1 : Int32).toInt = 1 from rfl]; omega); rw [q, show (1 : Int32).toInt = 1 from rfl]); omega))
theorem s_H_X11_odds_124 (N : Nat) (hN : 4294967296 ≤ N) : ∀ (n : Nat) (σ : gI) (τ : gJ) (x1 : Int32) (x2 : Int32) (x3 : Int32) (x5 : Int32) (x6 : Int32) (x7 : Int32) (x8 : Int32), IC σ → (0 ≤ x8.toInt) → (2147483647 - x8.toInt).toNat < n → okp (Kq σ τ (fun _ => True)) (H_X11_odds_124 N n σ τ x1 x2 x3 x5 x6 x7 x8) := by
  intro n
  induction n with
  | zero => intro σ τ x1 x2 x3 x5 x6 x7 x8 _ _ hm; exact absurd hm (Nat.not_lt_zero _)
  | succ n ih =>
    intro σ τ x1 x2 x3 x5 x6 x7 x8 hI h0_124 hm
    exact s_C_X11_odds_124 N hN (H_X11_odds_124 N n) n ih σ τ x1 x2 x3 x5 x6 x7 x8 hI h0_124 hm
set_option maxHeartbeats 2000000 in
theorem s_C_X11_odds_92 (N : Nat) (hN : 4294967296 ≤ N) (rec_92 : gI → gJ → Int32 → Int32 → Int32 → Int32 → Int32 → Int32 → Int32 → Option (Int32 × gI × gJ)) (n_92 : Nat) (hrec_92 : ∀ (σ : gI) (τ : gJ) (x1 : Int32) (x2 : Int32) (x3 : Int32) (x4 : Int32) (x5 : Int32) (x7 : Int32) (x8 : Int32), IC σ → (0 ≤ x8.toInt) → (2147483647 - x8.toInt).toNat < n_92 → okp (Kq σ τ (fun _ => True)) (rec_92 σ τ x1 x2 x3 x4 x5 x7 x8)) (σ : gI) (τ : gJ) (x1 : Int32) (x2 : Int32) (x3 : Int32) (x4 : Int32) (x5 : Int32) (x7 : Int32) (x8 : Int32) (hI : IC σ) (h0_92 : 0 ≤ x8.toInt) (hm_92 : (2147483647 - x8.toInt).toNat < n_92 + 1) : okp (Kq σ τ (fun _ => True)) (C_X11_odds_92 N rec_92 σ τ x1 x2 x3 x4 x5 x7 x8) := by
  unfold C_X11_odds_92
  refine ok_ite (fun c_1 => ?_) (fun c_1 => ?_)
  · simp only [fa_lt, fa_le, fa_eq] at c_1
    refine ok_nm (fun σ_2 e_2 => ?_)
    have k_2 : KS σ σ_2 := ks_up (ks_rf σ) e_2 (by omega) (by omega) (by omega)
    exact ok_mono (fun _ _ _ h9 => ⟨h9.1, ks_tr k_2 h9.2.1, kj_tr (kj_rf τ) h9.2.2⟩) (s_H_X11_odds_124 N hN N σ_2 τ x1 x2 x3 x5 0 x7 0 (k_2.1.2 hI) (by have : (0 : Int32).toInt = 0 := rfl; have := i32_rng x5; have := i32_rng x8; omega) (by have : (0 : Int32).toInt = 0 := rfl; have := i32_rng x5; have := i32_rng x8; omega))
  · simp only [fa_lt, fa_le, fa_eq] at c_1
    refine ok_nm (fun v_3 e_3 => ?_)
    refine ok_nm (fun v_4 e_4 => ?_)
    exact ok_mono (fun _ _ _ h9 => ⟨h9.1, ks_tr (ks_rf σ) h9.2.1, kj_tr (kj_rf τ) h9.2.2⟩) (hrec_92 σ τ x1 x2 x3 x4 x5 v_3 v_4 ((ks_rf σ).1.2 hI) (by have : (0 : Int32).toInt = 0 := rfl; have : (1 : Int32).toInt = 1 := rfl; have := i32_rng v_4; have := i32_rng x5; have := i32_rng x8; have u_v_4 : v_4.toInt = (x8).toInt + 1 := (by rw [e_4]; have q := ti_add (a := x8) (b := 1) (by rw [show (1 : Int32).toInt = 1 from rfl]; omega) (by rw [show (1 : Int32).toInt = 1 from rfl]; omega); rw [q, show (1 : Int32).toInt = 1 from rfl]); omega) (by have : (1 : Int32).toInt = 1 := rfl; have := i32_rng v_4; have := i32_rng x5; have := i32_rng x8; have u_v_4 : v_4.toInt = (x8).toInt + 1 := (by rw [e_4]; have q := ti_add (a := x8) (b := 1) (by rw [show (1 : Int32).toInt = 1 from rfl]; omega) (by rw [show (1 : Int32).toInt = 1 from rfl]; omega); rw [q, show (1 : Int32).toInt = 1 from rfl]); omega))
theorem s_H_X11_odds_92 (N : Nat) (hN : 4294967296 ≤ N) : ∀ (n : Nat) (σ : gI) (τ : gJ) (x1 : Int32) (x2 : Int32) (x3 : Int32) (x4 : Int32) (x5 : Int32) (x7 : Int32) (x8 : Int32), IC σ → (0 ≤ x8.toInt) → (2147483647 - x8.toInt).toNat < n → okp (Kq σ τ (fun _ => True)) (H_X11_odds_92 N n σ τ x1 x2 x3 x4 x5 x7 x8) := by
  intro n
  induction n with
  | zero => intro σ τ x1 x2 x3 x4 x5 x7 x8 _ _ hm; exact absurd hm (Nat.not_lt_zero _)
  | succ n ih =>
    intro σ τ x1 x2 x3 x4 x5 x7 x8 hI h0_92 hm
    exact s_C_X11_odds_92 N hN (H_X11_odds_92 N n) n ih σ τ x1 x2 x3 x4 x5 x7 x8 hI h0_92 hm
set_option maxHeartbeats 2000000 in
theorem s_B_X11_odds_0 (N : Nat) (hN : 4294967296 ≤ N) (σ : gI) (τ : gJ) (x1 : Int32) (x2 : Int32) (x3 : Int32) (hI : IC σ) : okp (Kq σ τ (fun _ => True)) (B_X11_odds_0 N σ τ x1 x2 x3) := by
  unfold B_X11_odds_0
  refine ok_bd (s_B_X6_has_0 N hN 30 is_30 σ τ x1 ((ks_rf σ).1.2 hI)) (fun r_1 σ_1 τ_1 hp_1 => ?_)
  have k_1 : KS σ σ_1 := ks_eq (ks_rf σ) hp_1.2.1
  have kj_1 : KJ τ τ_1 := kj_eq (kj_rf τ) hp_1.2.2
  refine ok_ite (fun c_1 => ?_) (fun c_1 => ?_)
  · simp only [fa_lt, fa_le, fa_eq] at c_1
    exact ok_r ⟨trivial, k_1, kj_1⟩
  · simp only [fa_lt, fa_le, fa_eq] at c_1
    refine ok_ite (fun c_2 => ?_) (fun c_2 => ?_)
    · simp only [fa_lt, fa_le, fa_eq] at c_2
      exact ok_r ⟨trivial, k_1, kj_1⟩
    · simp only [fa_lt, fa_le, fa_eq] at c_2
      refine ok_ite (fun c_3 => ?_) (fun c_3 => ?_)
      · simp only [fa_lt, fa_le, fa_eq] at c_3
        exact ok_r ⟨trivial, k_1, kj_1⟩
      · simp only [fa_lt, fa_le, fa_eq] at c_3
        refine ok_ite (fun c_4 => ?_) (fun c_4 => ?_)
        · simp only [fa_lt, fa_le, fa_eq] at c_4
          exact ok_r ⟨trivial, k_1, kj_1⟩
        · simp only [fa_lt, fa_le, fa_eq] at c_4
          refine ok_ite (fun c_5 => ?_) (fun c_5 => ?_)
          · simp only [fa_lt, fa_le, fa_eq] at c_5
            refine ok_nm (fun v_7 e_7 => ?_)
            refine ok_ite (fun c_6 => ?_) (fun c_6 => ?_)
            · simp only [fa_lt, fa_le, fa_eq] at c_6
              exact ok_mono (fun _ _ _ h9 => ⟨h9.1, ks_tr k_1 h9.2.1, kj_tr kj_1 h9.2.2⟩) (s_H_X11_odds_92 N hN N σ_1 τ_1 x1 x2 x3 v_7 0 1 0 (k_1.1.2 hI) (by have : (0 : Int32).toInt = 0 := rfl; have : (10 : Int32).toInt = 10 := rfl; have : (60 : Int32).toInt = 60 := rfl; have := i32_rng r_1; have := i32_rng x2; have := i32_rng x3; omega) (by have : (0 : Int32).toInt = 0 := rfl; have : (10 : Int32).toInt = 10 := rfl; have : (60 : Int32).toInt = 60 := rfl; have := i32_rng r_1; have := i32_rng x2; have := i32_rng x3; omega))
            · simp only [fa_lt, fa_le, fa_eq] at c_6
              refine ok_nm (fun v_9 e_9 => ?_)
              exact ok_mono (fun _ _ _ h9 => ⟨h9.1, ks_tr k_1 h9.2.1, kj_tr kj_1 h9.2.2⟩) (s_H_X11_odds_92 N hN N σ_1 τ_1 x1 x2 x3 v_7 v_9 1 0 (k_1.1.2 hI) (by have : (0 : Int32).toInt = 0 := rfl; have : (10 : Int32).toInt = 10 := rfl; have : (60 : Int32).toInt = 60 := rfl; have := i32_rng r_1; have := i32_rng x2; have := i32_rng x3; omega) (by have : (0 : Int32).toInt = 0 := rfl; have : (10 : Int32).toInt = 10 := rfl; have : (60 : Int32).toInt = 60 := rfl; have := i32_rng r_1; have := i32_rng x2; have := i32_rng x3; omega))
          · simp only [fa_lt, fa_le, fa_eq] at c_5
            exact ok_r ⟨trivial, k_1, kj_1⟩
set_option maxHeartbeats 2000000 in
theorem s_B_X1_seesOthers_0 (N : Nat) (hN : 4294967296 ≤ N) (σ : gI) (τ : gJ) (hI : IC σ) : okp (Kqe σ τ (fun a => a = 0 ∨ a = 1)) (B_X1_seesOthers_0 N σ τ) := by
  unfold B_X1_seesOthers_0
  have b_1 : (σ 17 10) = 0 ∨ (σ 17 10) = 1 := hI.2.2.1
  refine ok_cb b_1 ?_
  exact ok_r ⟨b_1, (Eq.refl σ), (Eq.refl τ)⟩
set_option maxHeartbeats 2000000 in
theorem s_C_X6_holdBack_2 (N : Nat) (hN : 4294967296 ≤ N) (c : Nat) (tc : gx_isS c) (rec_2 : gI → gJ → Int32 → Int32 → Option (Unit × gI × gJ)) (n_2 : Nat) (hrec_2 : ∀ (σ : gI) (τ : gJ) (x1 : Int32) (x2 : Int32), IC σ → (0 ≤ x2.toInt) → (2147483647 - x2.toInt).toNat < n_2 → okp (Kq σ τ (fun _ => True)) (rec_2 σ τ x1 x2)) (σ : gI) (τ : gJ) (x1 : Int32) (x2 : Int32) (hI : IC σ) (h0_2 : 0 ≤ x2.toInt) (hm_2 : (2147483647 - x2.toInt).toNat < n_2 + 1) : okp (Kq σ τ (fun _ => True)) (C_X6_holdBack_2 N c rec_2 σ τ x1 x2) := by
  unfold C_X6_holdBack_2
  have hc := isS_rng tc
  refine ok_ite (fun c_1 => ?_) (fun c_1 => ?_)
  · simp only [fa_lt, fa_le, fa_eq] at c_1
    exact ok_r ⟨trivial, (ks_rf σ), (kj_rf τ)⟩
  · simp only [fa_lt, fa_le, fa_eq] at c_1
    refine ok_ite (fun c_2 => ?_) (fun c_2 => ?_)
    · simp only [fa_lt, fa_le, fa_eq] at c_2
      exact ok_r ⟨trivial, (ks_rf σ), (kj_rf τ)⟩
    · simp only [fa_lt, fa_le, fa_eq] at c_2
      refine ok_ite (fun c_3 => ?_) (fun c_3 => ?_)
      · simp only [fa_lt, fa_le, fa_eq] at c_3
        refine ok_ck (by have : (0 : Int32).toInt = 0 := rfl; have : (1 : Int32).toInt = 1 := rfl; have : (6 : Int32).toInt = 6 := rfl; have : (31 : Int32).toInt = 31 := rfl; have := i32_rng (σ c 6); have := i32_rng x1; have := i32_rng x2; omega) (fun j_4 hj_4 lj_4 => ?_)
        refine ok_nm (fun σ_5 e_5 => ?_)
        have k_5 : KS σ σ_5 := ks_up (ks_rf σ) e_5 (by omega) (by omega) (by omega)
        refine ok_nm (fun v_6 e_6 => ?_)
        exact ok_mono (fun _ _ _ h9 => ⟨h9.1, ks_tr k_5 h9.2.1, kj_tr (kj_rf τ) h9.2.2⟩) (hrec_2 σ_5 τ x1 v_6 (k_5.1.2 hI) (by have : (0 : Int32).toInt = 0 := rfl; have : (1 : Int32).toInt = 1 := rfl; have : (6 : Int32).toInt = 6 := rfl; have : (31 : Int32).toInt = 31 := rfl; have := i32_rng (σ c 6); have := i32_rng v_6; have := i32_rng x1; have := i32_rng x2; have u_v_6 : v_6.toInt = (x2).toInt + 1 := (by rw [e_6]; have q := ti_add (a := x2) (b := 1) (by rw [show (1 : Int32).toInt = 1 from rfl]; omega) (by rw [show (1 : Int32).toInt = 1 from rfl]; omega); rw [q, show (1 : Int32).toInt = 1 from rfl]); omega) (by have : (0 : Int32).toInt = 0 := rfl; have : (1 : Int32).toInt = 1 := rfl; have : (6 : Int32).toInt = 6 := rfl; have : (31 : Int32).toInt = 31 := rfl; have := i32_rng (σ c 6); have := i32_rng v_6; have := i32_rng x1; have := i32_rng x2; have u_v_6 : v_6.toInt = (x2).toInt + 1 := (by rw [e_6]; have q := ti_add (a := x2) (b := 1) (by rw [show (1 : Int32).toInt = 1 from rfl]; omega) (by rw [show (1 : Int32).toInt = 1 from rfl]; omega); rw [q, show (1 : Int32).toInt = 1 from rfl]); omega))
      · simp only [fa_lt, fa_le, fa_eq] at c_3
        refine ok_ck (by have : (0 : Int32).toInt = 0 := rfl; have : (1 : Int32).toInt = 1 := rfl; have : (6 : Int32).toInt = 6 := rfl; have : (31 : Int32).toInt = 31 := rfl; have := i32_rng (σ c 6); have := i32_rng x1; have := i32_rng x2; omega) (fun j_7 hj_7 lj_7 => ?_)
        refine ok_nm (fun σ_8 e_8 => ?_)
        have k_8 : KS σ σ_8 := ks_up (ks_rf σ) e_8 (by omega) (by omega) (by omega)
        refine ok_nm (fun v_9 e_9 => ?_)
        exact ok_mono (fun _ _ _ h9 => ⟨h9.1, ks_tr k_8 h9.2.1, kj_tr (kj_rf τ) h9.2.2⟩) (hrec_2 σ_8 τ x1 v_9 (k_8.1.2 hI) (by have : (0 : Int32).toInt = 0 := rfl; have : (1 : Int32).toInt = 1 := rfl; have : (6 : Int32).toInt = 6 := rfl; have : (31 : Int32).toInt = 31 := rfl; have := i32_rng (σ c 6); have := i32_rng v_9; have := i32_rng x1; have := i32_rng x2; have u_v_9 : v_9.toInt = (x2).toInt + 1 := (by rw [e_9]; have q := ti_add (a := x2) (b := 1) (by rw [show (1 : Int32).toInt = 1 from rfl]; omega) (by rw [show (1 : Int32).toInt = 1 from rfl]; omega); rw [q, show (1 : Int32).toInt = 1 from rfl]); omega) (by have : (0 : Int32).toInt = 0 := rfl; have : (1 : Int32).toInt = 1 := rfl; have : (6 : Int32).toInt = 6 := rfl; have : (31 : Int32).toInt = 31 := rfl; have := i32_rng (σ c 6); have := i32_rng v_9; have := i32_rng x1; have := i32_rng x2; have u_v_9 : v_9.toInt = (x2).toInt + 1 := (by rw [e_9]; have q := ti_add (a := x2) (b := 1) (by rw [show (1 : Int32).toInt = 1 from rfl]; omega) (by rw [show (1 : Int32).toInt = 1 from rfl]; omega); rw [q, show (1 : Int32).toInt = 1 from rfl]); omega))
theorem s_H_X6_holdBack_2 (N : Nat) (hN : 4294967296 ≤ N) (c : Nat) (tc : gx_isS c) : ∀ (n : Nat) (σ : gI) (τ : gJ) (x1 : Int32) (x2 : Int32), IC σ → (0 ≤ x2.toInt) → (2147483647 - x2.toInt).toNat < n → okp (Kq σ τ (fun _ => True)) (H_X6_holdBack_2 N c n σ τ x1 x2) := by
  intro n
  induction n with
  | zero => intro σ τ x1 x2 _ _ hm; exact absurd hm (Nat.not_lt_zero _)
  | succ n ih =>
    intro σ τ x1 x2 hI h0_2 hm
    exact s_C_X6_holdBack_2 N hN c tc (H_X6_holdBack_2 N c n) n ih σ τ x1 x2 hI h0_2 hm
set_option maxHeartbeats 2000000 in
theorem s_B_X6_holdBack_0 (N : Nat) (hN : 4294967296 ≤ N) (c : Nat) (tc : gx_isS c) (σ : gI) (τ : gJ) (x1 : Int32) (hI : IC σ) : okp (Kq σ τ (fun _ => True)) (B_X6_holdBack_0 N c σ τ x1) := by
  unfold B_X6_holdBack_0
  have hc := isS_rng tc
  exact ok_mono (fun _ _ _ h9 => ⟨h9.1, ks_tr (ks_rf σ) h9.2.1, kj_tr (kj_rf τ) h9.2.2⟩) (s_H_X6_holdBack_2 N hN c tc N σ τ x1 0 ((ks_rf σ).1.2 hI) (by have : (0 : Int32).toInt = 0 := rfl; omega) (by have : (0 : Int32).toInt = 0 := rfl; omega))
set_option maxHeartbeats 2000000 in
theorem s_B_X9_startFrom_0 (N : Nat) (hN : 4294967296 ≤ N) (σ : gI) (τ : gJ) (x2 : Int32) (x3 : Int32) (hI : IC σ) : okp (Kq σ τ (fun _ => True)) (B_X9_startFrom_0 N σ τ x2 x3) := by
  unfold B_X9_startFrom_0
  refine ok_bd (s_B_X6_copy_0 N hN 164 is_164 30 is_30 σ τ ((ks_rf σ).1.2 hI)) (fun _ σ_1 τ_1 hp_1 => ?_)
  have k_1 : KS σ σ_1 := ks_tr (ks_rf σ) hp_1.2.1
  have kj_1 : KJ τ τ_1 := kj_tr (kj_rf τ) hp_1.2.2
  refine ok_nm (fun σ_2 e_2 => ?_)
  have k_2 : KS σ σ_2 := ks_up k_1 e_2 (by omega) (by omega) (by omega)
  refine ok_nm (fun σ_3 e_3 => ?_)
  have k_3 : KS σ σ_3 := ks_up k_2 e_3 (by omega) (by omega) (by omega)
  refine ok_bd (s_B_X1_seesOthers_0 N hN σ_3 τ_1 (k_3.1.2 hI)) (fun r_4 σ_4 τ_4 hp_4 => ?_)
  have k_4 : KS σ σ_4 := ks_eq k_3 hp_4.2.1
  have kj_4 : KJ τ τ_4 := kj_eq kj_1 hp_4.2.2
  refine ok_ite (fun c_1 => ?_) (fun c_1 => ?_)
  · simp only [fa_lt, fa_le, fa_eq] at c_1
    refine ok_bd (s_B_X6_holdBack_0 N hN 164 is_164 σ_4 τ_4 (x2 ^^^ (-1)) (k_4.1.2 hI)) (fun _ σ_6 τ_6 hp_6 => ?_)
    have k_6 : KS σ σ_6 := ks_tr k_4 hp_6.2.1
    have kj_6 : KJ τ τ_6 := kj_tr kj_4 hp_6.2.2
    exact ok_r ⟨trivial, k_6, kj_6⟩
  · simp only [fa_lt, fa_le, fa_eq] at c_1
    exact ok_r ⟨trivial, k_4, kj_4⟩
