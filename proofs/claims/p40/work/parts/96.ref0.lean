theorem wi_in {σ : gI} {x1 v : Int32} (hW : WI σ) (c1 : ¬ (σ 199 4).toInt = (0 : Int32).toInt) (ev : v = x1 / 10) (c3 : 0 ≤ x1.toInt) : 0 ≤ (v - v / (σ 199 4) * (σ 199 4)).toInt ∧ (v - v / (σ 199 4) * (σ 199 4)).toInt < (40 : Nat) := by
  obtain ⟨w1, w2⟩ := hW
  subst ev
  have e0 : (0 : Int32).toInt = 0 := rfl
  have e2 : (10 : Int32).toInt = 10 := rfl
  have h1 : 0 ≤ (x1 / 10).toInt := by
    rw [ti_div (by omega) (by omega), e2]
    omega
  rw [ti_rem h1 (by omega)]
  have h2 := Int.emod_nonneg (x1 / 10).toInt (show (σ 199 4).toInt ≠ 0 by omega)
  have h3 := Int.emod_lt_of_pos (x1 / 10).toInt (show 0 < (σ 199 4).toInt by omega)
  omega
theorem m_B_X12_in_0 (N : Nat) (hN : 4294967296 ≤ N) (σ : gI) (τ : gJ) (x0 x2 x4 : Int64) : okp (fun (a : Int32) σ1 τ1 => (a = 0 ∨ a = 1) ∧ (a.toInt = 0 ∨ (a.toInt = 1 ∧ x2.toInt ≤ x0.toInt ∧ x0.toInt ≤ x4.toInt))) (B_X12_in_0 N σ τ x0 x2 x4) := by
  unfold B_X12_in_0
  refine ok_ite (fun c1 => ok_r ⟨Or.inl rfl, Or.inl rfl⟩) (fun c1 => ok_ite (fun c2 => ok_r ⟨Or.inl rfl, Or.inl rfl⟩) (fun c2 => ok_r ⟨Or.inr rfl, Or.inr ⟨rfl, ?_, ?_⟩⟩))
  · exact Int.not_lt.mp (fun q => c1 ((gx_cl x0 x2).mpr q))
  · exact Int.not_lt.mp (fun q => c2 ((gx_cg x0 x4).mpr q))
set_option maxHeartbeats 2000000 in
theorem m_B_X12_flag_0 (N : Nat) (hN : 4294967296 ≤ N) (σ : gI) (τ : gJ) (x0 : Int32) : okp (fun (a : Int32) σ1 τ1 => (a = 0 ∨ a = 1) ∧ (x0.toInt = 0 → a.toInt = 0) ∧ (¬ x0.toInt = 0 → a.toInt = 1)) (B_X12_flag_0 N σ τ x0) := by
  unfold B_X12_flag_0
  refine ok_ite (fun c_1 => ?_) (fun c_1 => ?_)
  · simp only [fa_lt, fa_le, fa_eq] at c_1
    exact ok_r ⟨(Or.inl rfl), (by have : (0 : Int32).toInt = 0 := rfl; have : (1 : Int32).toInt = 1 := rfl; have := i32_rng x0; have : (0 : Int32).toInt = 0 := rfl; omega)⟩
  · simp only [fa_lt, fa_le, fa_eq] at c_1
    exact ok_r ⟨(Or.inr rfl), (by have : (0 : Int32).toInt = 0 := rfl; have : (1 : Int32).toInt = 1 := rfl; have := i32_rng x0; have : (1 : Int32).toInt = 1 := rfl; omega)⟩
set_option maxHeartbeats 2000000 in
theorem m_B_X12_has_0 (N : Nat) (hN : 4294967296 ≤ N) (σ : gI) (τ : gJ) (x0 : Int32) (x1 : Int32) : okp (fun (a : Int32) σ1 τ1 => a = 0 ∨ a = 1) (B_X12_has_0 N σ τ x0 x1) := by
  unfold B_X12_has_0
  refine ok_ite (fun c_1 => ?_) (fun c_1 => ?_)
  · simp only [fa_lt, fa_le, fa_eq] at c_1
    exact ok_r (Or.inr rfl)
  · simp only [fa_lt, fa_le, fa_eq] at c_1
    exact ok_r (Or.inl rfl)
set_option maxHeartbeats 2000000 in
theorem m_B_X12_refuse_0 (N : Nat) (hN : 4294967296 ≤ N) (σ : gI) (τ : gJ) : okp (fun (a : Int32) σ1 τ1 => True) (B_X12_refuse_0 N σ τ) := by
  unfold B_X12_refuse_0
  refine ok_nm (fun σ_1 e_1 => ?_)
  exact ok_r trivial
theorem m_B_X12_isPlace_0 (N : Nat) (hN : 4294967296 ≤ N) (σ : gI) (τ : gJ) (x1 : Int32) (hS : SI σ) : okp (fun (a : Int32) σ1 τ1 => (a = 0 ∨ a = 1) ∧ (a.toInt = 0 ∨ (a.toInt = 1 ∧ 0 ≤ x1.toInt ∧ x1.toInt < (σ 199 3).toInt))) (B_X12_isPlace_0 N σ τ x1) := by
  unfold B_X12_isPlace_0
  refine ok_bd (m_B_X12_in_0 N hN σ τ _ _ _) (fun r σ1 τ1 hp => ok_cb hp.1 (ok_r ⟨hp.1, ?_⟩))
  have h1 := hS.1.1
  have h2 := hp.2
  have e0 : (0 : Int64).toInt = 0 := rfl
  have e1 : (1 : Int32).toInt = 1 := rfl
  rw [Int32.toInt_toInt64, Int32.toInt_toInt64, ti_sub (by rw [e1]; omega) (by rw [e1]; omega), e0, e1] at h2
  omega
set_option maxHeartbeats 2000000 in
theorem m_B_X12_isKitchen_0 (N : Nat) (hN : 4294967296 ≤ N) (σ : gI) (τ : gJ) (x1 : Int32) (hS : SI σ) : okp (fun (a : Int32) σ1 τ1 => a = 0 ∨ a = 1) (B_X12_isKitchen_0 N σ τ x1) := by
  unfold B_X12_isKitchen_0
  refine ok_bd2 (m_B_X12_isPlace_0 N hN σ τ x1 hS) (fun r_1 σ_1 τ_1 q_1 hp_1 => ?_)
  have f_1 := fr_B_X12_isPlace_0 N σ τ x1 q_1
  have hS_1 : SI σ_1 := si_fr hS (fun c k h => f_1.1 c k id)
  have g_1 : r_1.toInt = 0 ∨ (r_1.toInt = 1 ∧ 0 ≤ x1.toInt ∧ x1.toInt < (σ 199 3).toInt) := hp_1.2
  refine ok_ite (fun c_1 => ?_) (fun c_1 => ?_)
  · simp only [fa_lt, fa_le, fa_eq] at c_1
    exact ok_r (Or.inl rfl)
  · simp only [fa_lt, fa_le, fa_eq] at c_1
    refine ok_ck (by have : (0 : Int32).toInt = 0 := rfl; have : (12 : Int32).toInt = 12 := rfl; have := i32_rng (σ 199 3); have := i32_rng r_1; have := i32_rng x1; have := hS_1.1.1; have := hS.1.1; omega) (fun j_3 hj_3 lj_3 => ?_)
    refine ok_ite (fun c_2 => ?_) (fun c_2 => ?_)
    · simp only [fa_lt, fa_le, fa_eq] at c_2
      exact ok_r (Or.inr rfl)
    · simp only [fa_lt, fa_le, fa_eq] at c_2
      exact ok_r (Or.inl rfl)
set_option maxHeartbeats 2000000 in
theorem m_B_X12_isFork_0 (N : Nat) (hN : 4294967296 ≤ N) (σ : gI) (τ : gJ) (x1 : Int32) (hS : SI σ) : okp (fun (a : Int32) σ1 τ1 => a = 0 ∨ a = 1) (B_X12_isFork_0 N σ τ x1) := by
  unfold B_X12_isFork_0
  refine ok_bd2 (m_B_X12_isPlace_0 N hN σ τ x1 hS) (fun r_1 σ_1 τ_1 q_1 hp_1 => ?_)
  have f_1 := fr_B_X12_isPlace_0 N σ τ x1 q_1
  have hS_1 : SI σ_1 := si_fr hS (fun c k h => f_1.1 c k id)
  have g_1 : r_1.toInt = 0 ∨ (r_1.toInt = 1 ∧ 0 ≤ x1.toInt ∧ x1.toInt < (σ 199 3).toInt) := hp_1.2
  refine ok_ite (fun c_1 => ?_) (fun c_1 => ?_)
  · simp only [fa_lt, fa_le, fa_eq] at c_1
    exact ok_r (Or.inl rfl)
  · simp only [fa_lt, fa_le, fa_eq] at c_1
    refine ok_ck (by have : (0 : Int32).toInt = 0 := rfl; have : (12 : Int32).toInt = 12 := rfl; have := i32_rng (σ 199 3); have := i32_rng r_1; have := i32_rng x1; have := hS_1.1.1; have := hS.1.1; omega) (fun j_3 hj_3 lj_3 => ?_)
    refine ok_ite (fun c_2 => ?_) (fun c_2 => ?_)
    · simp only [fa_lt, fa_le, fa_eq] at c_2
      exact ok_r (Or.inr rfl)
    · simp only [fa_lt, fa_le, fa_eq] at c_2
      exact ok_r (Or.inl rfl)
set_option maxHeartbeats 2000000 in
theorem m_B_X12_enters_0 (N : Nat) (hN : 4294967296 ≤ N) (σ : gI) (τ : gJ) (x1 : Int64) (h1 : 0 ≤ (σ 199 1).toInt ∧ (σ 199 1).toInt < 16) : okp (fun (a : Unit) σ1 τ1 => (σ1 199 1).toInt = (σ 199 1).toInt + 1) (B_X12_enters_0 N σ τ x1) := by
  unfold B_X12_enters_0
  refine ok_ck (by have : (0 : Int32).toInt = 0 := rfl; have : (1 : Int32).toInt = 1 := rfl; have : (16 : Int32).toInt = 16 := rfl; have : (199 : Int32).toInt = 199 := rfl; have := i32_rng (σ 199 1); omega) (fun j_1 hj_1 lj_1 => ?_)
  refine ok_nm (fun τ_2 e_2 => ?_)
  refine ok_nm (fun σ_3 e_3 => ?_)
  exact ok_r (by have : (1 : Int32).toInt = 1 := rfl; have : (199 : Int32).toInt = 199 := rfl; have := i32_rng (σ 199 1); have := congrArg Int32.toInt (show σ_3 199 1 = ((σ 199 1) + 1) from (by rw [e_3]; unfold up2; rw [if_pos ⟨rfl, rfl⟩])); have := i32_rng (σ_3 199 1); have q_1 : ((σ 199 1) + 1).toInt = _ := ti_add (a := (σ 199 1)) (b := (1 : Int32)) (by omega) (by omega); omega)
set_option maxHeartbeats 2000000 in
theorem m_B_X12_takes_29 (N : Nat) (hN : 4294967296 ≤ N) (σ : gI) (τ : gJ) (y0 : Int32) (ha : 0 ≤ (σ 199 14).toInt ∧ (σ 199 14).toInt ≤ 80 ∧ (σ 199 15).toInt ≤ 80) (hb : y0 = 0 ∨ y0 = 1) (hy : y0.toInt = 0 ∨ (y0.toInt = 1 ∧ (σ 199 14).toInt < (σ 199 15).toInt)) : okp (fun (a : Int32) σ1 τ1 => (a = 0 ∨ a = 1) ∧ (a.toInt = 0 ∨ (a.toInt = 1 ∧ (σ 199 14).toInt < (σ 199 15).toInt)) ∧ (σ1 199 14).toInt = (σ 199 14).toInt + a.toInt) (B_X12_takes_29 N σ τ y0) := by
  unfold B_X12_takes_29
  refine ok_bd2 (m_B_X12_flag_0 N hN σ τ y0) (fun r_1 σ_1 τ_1 q_1 hp_1 => ?_)
  have f_1 := fr_B_X12_flag_0 N σ τ y0 q_1
  have g_1 : (y0.toInt = 0 → r_1.toInt = 0) ∧ (¬ y0.toInt = 0 → r_1.toInt = 1) := hp_1.2
  refine ok_nm (fun σ_2 e_2 => ?_)
  have b_1 : y0 = 0 ∨ y0 = 1 := hb
  refine ok_cb b_1 ?_
  exact ok_r ⟨b_1, (by have : (0 : Int32).toInt = 0 := rfl; have : (1 : Int32).toInt = 1 := rfl; have : (14 : Int32).toInt = 14 := rfl; have : (15 : Int32).toInt = 15 := rfl; have : (199 : Int32).toInt = 199 := rfl; have := i32_rng (σ 199 14); have := i32_rng (σ 199 15); have := congrArg Int32.toInt (show σ_2 199 14 = ((σ 199 14) + r_1) from (by rw [e_2]; unfold up2; rw [if_pos ⟨rfl, rfl⟩])); have := i32_rng (σ_2 199 14); have := i32_rng r_1; have := i32_rng y0; have q_1 : ((σ 199 14) + r_1).toInt = _ := ti_add (a := (σ 199 14)) (b := r_1) (by omega) (by omega); omega)⟩
set_option maxHeartbeats 2000000 in
theorem m_B_X12_takes_0 (N : Nat) (hN : 4294967296 ≤ N) (σ : gI) (τ : gJ) (x1 : Int32) (ha : 0 ≤ (σ 199 14).toInt ∧ (σ 199 14).toInt ≤ 80 ∧ (σ 199 15).toInt ≤ 80) : okp (fun (a : Int32) σ1 τ1 => (a = 0 ∨ a = 1) ∧ (a.toInt = 0 ∨ (a.toInt = 1 ∧ (σ 199 14).toInt < (σ 199 15).toInt)) ∧ (σ1 199 14).toInt = (σ 199 14).toInt + a.toInt) (B_X12_takes_0 N σ τ x1) := by
  unfold B_X12_takes_0
  refine ok_ite (fun c_1 => ?_) (fun c_1 => ?_)
  · simp only [fa_lt, fa_le, fa_eq] at c_1
    exact m_B_X12_takes_29 N hN σ τ 0 ha (Or.inl rfl) (by have : (0 : Int32).toInt = 0 := rfl; have : (1 : Int32).toInt = 1 := rfl; have : (14 : Int32).toInt = 14 := rfl; have : (15 : Int32).toInt = 15 := rfl; have : (199 : Int32).toInt = 199 := rfl; have := i32_rng (σ 199 14); have := i32_rng (σ 199 15); omega)
  · simp only [fa_lt, fa_le, fa_eq] at c_1
    refine ok_ck (by have : (0 : Int32).toInt = 0 := rfl; have : (14 : Int32).toInt = 14 := rfl; have : (15 : Int32).toInt = 15 := rfl; have : (80 : Int32).toInt = 80 := rfl; have : (199 : Int32).toInt = 199 := rfl; have := i32_rng (σ 199 14); have := i32_rng (σ 199 15); omega) (fun j_2 hj_2 lj_2 => ?_)
    refine ok_ite (fun c_2 => ?_) (fun c_2 => ?_)
    · simp only [fa_lt, fa_le, fa_eq] at c_2
      exact m_B_X12_takes_29 N hN σ τ 1 ha (Or.inr rfl) (by have : (0 : Int32).toInt = 0 := rfl; have : (1 : Int32).toInt = 1 := rfl; have : (14 : Int32).toInt = 14 := rfl; have : (15 : Int32).toInt = 15 := rfl; have : (199 : Int32).toInt = 199 := rfl; have : (208 : Int32).toInt = 208 := rfl; have := i32_rng (σ 199 14); have := i32_rng (σ 199 15); have := i32_rng (σ 208 j_2); have := i32_rng x1; omega)
    · simp only [fa_lt, fa_le, fa_eq] at c_2
      exact m_B_X12_takes_29 N hN σ τ 0 ha (Or.inl rfl) (by have : (0 : Int32).toInt = 0 := rfl; have : (1 : Int32).toInt = 1 := rfl; have : (14 : Int32).toInt = 14 := rfl; have : (15 : Int32).toInt = 15 := rfl; have : (199 : Int32).toInt = 199 := rfl; have : (208 : Int32).toInt = 208 := rfl; have := i32_rng (σ 199 14); have := i32_rng (σ 199 15); have := i32_rng (σ 208 j_2); have := i32_rng x1; omega)
set_option maxHeartbeats 2000000 in
theorem m_B_X12_isDigit_0 (N : Nat) (hN : 4294967296 ≤ N) (σ : gI) (τ : gJ) (ha : 0 ≤ (σ 199 14).toInt ∧ (σ 199 14).toInt ≤ 80 ∧ (σ 199 15).toInt ≤ 80) : okp (fun (a : Int32) σ1 τ1 => (a = 0 ∨ a = 1) ∧ (a.toInt = 0 ∨ (σ 199 14).toInt < (σ 199 15).toInt)) (B_X12_isDigit_0 N σ τ) := by
  unfold B_X12_isDigit_0
  refine ok_ite (fun c_1 => ?_) (fun c_1 => ?_)
  · simp only [fa_lt, fa_le, fa_eq] at c_1
    exact ok_r ⟨(Or.inl rfl), (by have : (0 : Int32).toInt = 0 := rfl; have : (14 : Int32).toInt = 14 := rfl; have : (15 : Int32).toInt = 15 := rfl; have : (199 : Int32).toInt = 199 := rfl; have := i32_rng (σ 199 14); have := i32_rng (σ 199 15); have : (0 : Int32).toInt = 0 := rfl; omega)⟩
  · simp only [fa_lt, fa_le, fa_eq] at c_1
    refine ok_ck (by have : (0 : Int32).toInt = 0 := rfl; have : (14 : Int32).toInt = 14 := rfl; have : (15 : Int32).toInt = 15 := rfl; have : (80 : Int32).toInt = 80 := rfl; have : (199 : Int32).toInt = 199 := rfl; have := i32_rng (σ 199 14); have := i32_rng (σ 199 15); omega) (fun j_2 hj_2 lj_2 => ?_)
    refine ok_bd2 (m_B_X12_in_0 N hN σ τ ((σ 208 j_2).toInt64) 48 57) (fun r_3 σ_3 τ_3 q_3 hp_3 => ?_)
    have f_3 := fr_B_X12_in_0 N σ τ ((σ 208 j_2).toInt64) 48 57 q_3
    have g_3 : r_3.toInt = 0 ∨ (r_3.toInt = 1 ∧ 48 ≤ (σ 208 j_2).toInt ∧ (σ 208 j_2).toInt ≤ 57) := (by have h := hp_3.2; simp only [Int32.toInt_toInt64, show (48 : Int64).toInt = 48 from rfl, show (57 : Int64).toInt = 57 from rfl] at h; exact h)
    refine ok_ite (fun c_2 => ?_) (fun c_2 => ?_)
    · simp only [fa_lt, fa_le, fa_eq] at c_2
      exact ok_r ⟨(Or.inl rfl), (by have : (0 : Int32).toInt = 0 := rfl; have : (14 : Int32).toInt = 14 := rfl; have : (15 : Int32).toInt = 15 := rfl; have : (199 : Int32).toInt = 199 := rfl; have := i32_rng (σ 208 j_2); have := i32_rng (σ 199 14); have := i32_rng (σ 199 15); have := i32_rng r_3; have : (0 : Int32).toInt = 0 := rfl; omega)⟩
    · simp only [fa_lt, fa_le, fa_eq] at c_2
      exact ok_r ⟨(Or.inr rfl), (by have : (0 : Int32).toInt = 0 := rfl; have : (1 : Int32).toInt = 1 := rfl; have : (14 : Int32).toInt = 14 := rfl; have : (15 : Int32).toInt = 15 := rfl; have : (199 : Int32).toInt = 199 := rfl; have := i32_rng (σ 208 j_2); have := i32_rng (σ 199 14); have := i32_rng (σ 199 15); have := i32_rng r_3; have : (1 : Int32).toInt = 1 := rfl; omega)⟩
set_option maxHeartbeats 2000000 in
theorem m_B_X12_faultOf_20 (N : Nat) (hN : 4294967296 ≤ N) (σ : gI) (τ : gJ) (x1 : Int32) (x2 : Int32) (y0 : Int32) : okp (fun (a : Int32) σ1 τ1 => True) (B_X12_faultOf_20 N σ τ x1 x2 y0) := by
  unfold B_X12_faultOf_20
  refine ok_ite (fun c_1 => ?_) (fun c_1 => ?_)
  · simp only [fa_lt, fa_le, fa_eq] at c_1
    refine ok_ite (fun c_2 => ?_) (fun c_2 => ?_)
    · simp only [fa_lt, fa_le, fa_eq] at c_2
      exact ok_r trivial
    · simp only [fa_lt, fa_le, fa_eq] at c_2
      exact ok_r trivial
  · simp only [fa_lt, fa_le, fa_eq] at c_1
    refine ok_ite (fun c_3 => ?_) (fun c_3 => ?_)
    · simp only [fa_lt, fa_le, fa_eq] at c_3
      refine ok_ite (fun c_4 => ?_) (fun c_4 => ?_)
      · simp only [fa_lt, fa_le, fa_eq] at c_4
        refine ok_ite (fun c_5 => ?_) (fun c_5 => ?_)
        · simp only [fa_lt, fa_le, fa_eq] at c_5
          exact ok_r trivial
        · simp only [fa_lt, fa_le, fa_eq] at c_5
          exact ok_r trivial
      · simp only [fa_lt, fa_le, fa_eq] at c_4
        exact ok_r trivial
    · simp only [fa_lt, fa_le, fa_eq] at c_3
      exact ok_r trivial
set_option maxHeartbeats 2000000 in
theorem m_B_X12_faultOf_0 (N : Nat) (hN : 4294967296 ≤ N) (σ : gI) (τ : gJ) (x1 : Int32) (x2 : Int32) (x3 : Int32) : okp (fun (a : Int32) σ1 τ1 => True) (B_X12_faultOf_0 N σ τ x1 x2 x3) := by
  unfold B_X12_faultOf_0
  refine ok_ite (fun c_1 => ?_) (fun c_1 => ?_)
  · simp only [fa_lt, fa_le, fa_eq] at c_1
    exact m_B_X12_faultOf_20 N hN σ τ x1 x2 0
  · simp only [fa_lt, fa_le, fa_eq] at c_1
    refine ok_ite (fun c_2 => ?_) (fun c_2 => ?_)
    · simp only [fa_lt, fa_le, fa_eq] at c_2
      exact m_B_X12_faultOf_20 N hN σ τ x1 x2 1
    · simp only [fa_lt, fa_le, fa_eq] at c_2
      exact m_B_X12_faultOf_20 N hN σ τ x1 x2 0
set_option maxHeartbeats 2000000 in
theorem m_B_X12_begins_0 (N : Nat) (hN : 4294967296 ≤ N) (σ : gI) (τ : gJ) (x1 : Int32) (ht : 0 ≤ (σ 199 13).toInt ∧ (σ 199 13).toInt ≤ 80) : okp (fun (a : Int32) σ1 τ1 => a = σ 199 13 ∧ (σ1 199 14).toInt = 0 ∧ (σ1 199 13).toInt = 0 ∧ (σ1 199 16).toInt = 0 ∧ (σ1 199 15).toInt ≤ 80) (B_X12_begins_0 N σ τ x1) := by
  unfold B_X12_begins_0
  refine ok_nm (fun v_1 e_1 => ?_)
  refine ok_nm (fun σ_2 e_2 => ?_)
  refine ok_nm (fun σ_3 e_3 => ?_)
  refine ok_nm (fun σ_4 e_4 => ?_)
  refine ok_nm (fun σ_5 e_5 => ?_)
  exact ok_r ⟨e_1, (by have : (0 : Int32).toInt = 0 := rfl; have : (14 : Int32).toInt = 14 := rfl; have : (199 : Int32).toInt = 199 := rfl; have := i32_rng (σ 199 13); have := congrArg Int32.toInt (show σ_5 199 14 = σ_4 199 14 from (by rw [e_5]; exact up2_ne (by omega))); have := congrArg Int32.toInt (show σ_4 199 14 = σ_3 199 14 from (by rw [e_4]; exact up2_ne (by omega))); have := congrArg Int32.toInt (show σ_3 199 14 = 0 from (by rw [e_3]; unfold up2; rw [if_pos ⟨rfl, rfl⟩])); have := i32_rng (σ_5 199 14); have := congrArg Int32.toInt (show σ_3 199 14 = 0 from (by rw [e_3]; unfold up2; rw [if_pos ⟨rfl, rfl⟩])); have := i32_rng (σ_3 199 14); have := congrArg Int32.toInt (show σ_4 199 14 = σ_3 199 14 from (by rw [e_4]; exact up2_ne (by omega))); have := congrArg Int32.toInt (show σ_3 199 14 = 0 from (by rw [e_3]; unfold up2; rw [if_pos ⟨rfl, rfl⟩])); have := i32_rng (σ_4 199 14); omega), (by have : (0 : Int32).toInt = 0 := rfl; have : (13 : Int32).toInt = 13 := rfl; have : (199 : Int32).toInt = 199 := rfl; have := i32_rng (σ 199 13); have := congrArg Int32.toInt (show σ_5 199 13 = σ_4 199 13 from (by rw [e_5]; exact up2_ne (by omega))); have := congrArg Int32.toInt (show σ_4 199 13 = σ_3 199 13 from (by rw [e_4]; exact up2_ne (by omega))); have := congrArg Int32.toInt (show σ_3 199 13 = σ_2 199 13 from (by rw [e_3]; exact up2_ne (by omega))); have := congrArg Int32.toInt (show σ_2 199 13 = 0 from (by rw [e_2]; unfold up2; rw [if_pos ⟨rfl, rfl⟩])); have := i32_rng (σ_5 199 13); have := congrArg Int32.toInt (show σ_2 199 13 = 0 from (by rw [e_2]; unfold up2; rw [if_pos ⟨rfl, rfl⟩])); have := i32_rng (σ_2 199 13); have := congrArg Int32.toInt (show σ_3 199 13 = σ_2 199 13 from (by rw [e_3]; exact up2_ne (by omega))); have := congrArg Int32.toInt (show σ_2 199 13 = 0 from (by rw [e_2]; unfold up2; rw [if_pos ⟨rfl, rfl⟩])); have := i32_rng (σ_3 199 13); have := congrArg Int32.toInt (show σ_4 199 13 = σ_3 199 13 from (by rw [e_4]; exact up2_ne (by omega))); have := congrArg Int32.toInt (show σ_3 199 13 = σ_2 199 13 from (by rw [e_3]; exact up2_ne (by omega))); have := congrArg Int32.toInt (show σ_2 199 13 = 0 from (by rw [e_2]; unfold up2; rw [if_pos ⟨rfl, rfl⟩])); have := i32_rng (σ_4 199 13); omega), (by have : (0 : Int32).toInt = 0 := rfl; have : (16 : Int32).toInt = 16 := rfl; have : (199 : Int32).toInt = 199 := rfl; have := i32_rng (σ 199 13); have := congrArg Int32.toInt (show σ_5 199 16 = σ_4 199 16 from (by rw [e_5]; exact up2_ne (by omega))); have := congrArg Int32.toInt (show σ_4 199 16 = 0 from (by rw [e_4]; unfold up2; rw [if_pos ⟨rfl, rfl⟩])); have := i32_rng (σ_5 199 16); have := congrArg Int32.toInt (show σ_4 199 16 = 0 from (by rw [e_4]; unfold up2; rw [if_pos ⟨rfl, rfl⟩])); have := i32_rng (σ_4 199 16); omega), (by have : (13 : Int32).toInt = 13 := rfl; have : (15 : Int32).toInt = 15 := rfl; have : (80 : Int32).toInt = 80 := rfl; have : (199 : Int32).toInt = 199 := rfl; have := imin_c v_1 x1; have := i32_rng (σ 199 13); have := congrArg Int32.toInt (show σ_5 199 15 = (imin v_1 x1) from (by rw [e_5]; unfold up2; rw [if_pos ⟨rfl, rfl⟩])); have := i32_rng (σ_5 199 15); have := i32_rng v_1; have := i32_rng x1; have u_v_1 : v_1.toInt = (σ 199 13).toInt := (by rw [e_1]); omega)⟩
set_option maxHeartbeats 2000000 in
theorem m_C_X12_sign_18 (N : Nat) (hN : 4294967296 ≤ N) (rec_18 : gI → gJ → Int32 → Int32 → Option (Int32 × gI × gJ)) (n_18 : Nat) (hrec_18 : ∀ (σ : gI) (τ : gJ) (x1 : Int32) (x2 : Int32), (0 ≤ (σ 199 13).toInt ∧ (σ 199 13).toInt ≤ 80) → (0 ≤ x2.toInt) → ((σ 199 13).toInt ≤ 76) → (2147483647 - x2.toInt).toNat < n_18 → okp (fun (a : Int32) σ1 τ1 => 0 ≤ (σ1 199 13).toInt ∧ (σ1 199 13).toInt ≤ 80) (rec_18 σ τ x1 x2)) (σ : gI) (τ : gJ) (x1 : Int32) (x2 : Int32) (ht : 0 ≤ (σ 199 13).toInt ∧ (σ 199 13).toInt ≤ 80) (h0_18 : 0 ≤ x2.toInt) (hm_18 : (2147483647 - x2.toInt).toNat < n_18 + 1) (ht2 : (σ 199 13).toInt ≤ 76) : okp (fun (a : Int32) σ1 τ1 => 0 ≤ (σ1 199 13).toInt ∧ (σ1 199 13).toInt ≤ 80) (C_X12_sign_18 N rec_18 σ τ x1 x2) := by
  unfold C_X12_sign_18
  refine ok_ite (fun c_1 => ?_) (fun c_1 => ?_)
  · simp only [fa_lt, fa_le, fa_eq] at c_1
    refine ok_nm (fun σ_2 e_2 => ?_)
    exact ok_r (by have : (0 : Int32).toInt = 0 := rfl; have : (4 : Int32).toInt = 4 := rfl; have : (13 : Int32).toInt = 13 := rfl; have : (80 : Int32).toInt = 80 := rfl; have : (199 : Int32).toInt = 199 := rfl; have := i32_rng (σ 199 13); have := congrArg Int32.toInt (show σ_2 199 13 = ((σ 199 13) + 4) from (by rw [e_2]; unfold up2; rw [if_pos ⟨rfl, rfl⟩])); have := i32_rng (σ_2 199 13); have := i32_rng x2; have q_1 : ((σ 199 13) + 4).toInt = _ := ti_add (a := (σ 199 13)) (b := (4 : Int32)) (by omega) (by omega); omega)
  · simp only [fa_lt, fa_le, fa_eq] at c_1
    refine ok_ck (by have : (0 : Int32).toInt = 0 := rfl; have : (4 : Int32).toInt = 4 := rfl; have : (13 : Int32).toInt = 13 := rfl; have : (80 : Int32).toInt = 80 := rfl; have : (199 : Int32).toInt = 199 := rfl; have := i32_rng (σ 199 13); have := i32_rng x2; have : ((σ 199 13) + x2).toInt = (σ 199 13).toInt + x2.toInt := (ti_add (by omega) (by omega)); have q9 := ti_add (a := (σ 199 13)) (b := x2) (by omega) (by omega); omega) (fun j_3 hj_3 lj_3 => ?_)
    refine ok_nm (fun σ_4 e_4 => ?_)
    refine ok_nm (fun v_5 e_5 => ?_)
    exact hrec_18 σ_4 τ x1 v_5 (by have : (0 : Int32).toInt = 0 := rfl; have : (4 : Int32).toInt = 4 := rfl; have : (13 : Int32).toInt = 13 := rfl; have : (80 : Int32).toInt = 80 := rfl; have : (199 : Int32).toInt = 199 := rfl; have := i32_rng (σ 199 13); have := congrArg Int32.toInt (show σ_4 199 13 = σ 199 13 from (by rw [e_4]; exact up2_ne (by omega))); have := i32_rng (σ_4 199 13); have := i32_rng x2; have := ti_add (a := (σ 199 13)) (b := x2) (by omega) (by omega); omega) (by have : (0 : Int32).toInt = 0 := rfl; have : (1 : Int32).toInt = 1 := rfl; have : (4 : Int32).toInt = 4 := rfl; have := i32_rng (σ 199 13); have := i32_rng v_5; have := i32_rng x2; have u_v_5 : v_5.toInt = (x2).toInt + 1 := (by rw [e_5]; have q := ti_add (a := x2) (b := 1) (by rw [show (1 : Int32).toInt = 1 from rfl]; omega) (by rw [show (1 : Int32).toInt = 1 from rfl]; omega); rw [q, show (1 : Int32).toInt = 1 from rfl]); have := ti_add (a := (σ 199 13)) (b := x2) (by omega) (by omega); omega) (by have : (4 : Int32).toInt = 4 := rfl; have : (13 : Int32).toInt = 13 := rfl; have : (76 : Int32).toInt = 76 := rfl; have : (199 : Int32).toInt = 199 := rfl; have := i32_rng (σ 199 13); have := congrArg Int32.toInt (show σ_4 199 13 = σ 199 13 from (by rw [e_4]; exact up2_ne (by omega))); have := i32_rng (σ_4 199 13); have := i32_rng x2; have := ti_add (a := (σ 199 13)) (b := x2) (by omega) (by omega); omega) (by have : (1 : Int32).toInt = 1 := rfl; have : (4 : Int32).toInt = 4 := rfl; have := i32_rng (σ 199 13); have := i32_rng v_5; have := i32_rng x2; have u_v_5 : v_5.toInt = (x2).toInt + 1 := (by rw [e_5]; have q := ti_add (a := x2) (b := 1) (by rw [show (1 : Int32).toInt = 1 from rfl]; omega) (by rw [show (1 : Int32).toInt = 1 from rfl]; omega); rw [q, show (1 : Int32).toInt = 1 from rfl]); have := ti_add (a := (σ 199 13)) (b := x2) (by omega) (by omega); omega)
theorem m_H_X12_sign_18 (N : Nat) (hN : 4294967296 ≤ N) : ∀ (n : Nat) (σ : gI) (τ : gJ) (x1 : Int32) (x2 : Int32), (0 ≤ (σ 199 13).toInt ∧ (σ 199 13).toInt ≤ 80) → (0 ≤ x2.toInt) → ((σ 199 13).toInt ≤ 76) → (2147483647 - x2.toInt).toNat < n → okp (fun (a : Int32) σ1 τ1 => 0 ≤ (σ1 199 13).toInt ∧ (σ1 199 13).toInt ≤ 80) (H_X12_sign_18 N n σ τ x1 x2) := by
  intro n
  induction n with
  | zero => intro σ τ x1 x2 _ _ _ hm; exact absurd hm (Nat.not_lt_zero _)
  | succ n ih =>
    intro σ τ x1 x2 ht h0_18 ht2 hm
    exact m_C_X12_sign_18 N hN (H_X12_sign_18 N n) n ih σ τ x1 x2 ht h0_18 hm ht2
set_option maxHeartbeats 2000000 in
theorem m_B_X12_sign_0 (N : Nat) (hN : 4294967296 ≤ N) (σ : gI) (τ : gJ) (x1 : Int32) (ht : 0 ≤ (σ 199 13).toInt ∧ (σ 199 13).toInt ≤ 80) : okp (fun (a : Int32) σ1 τ1 => 0 ≤ (σ1 199 13).toInt ∧ (σ1 199 13).toInt ≤ 80) (B_X12_sign_0 N σ τ x1) := by
  unfold B_X12_sign_0
  refine ok_nm (fun σ_1 e_1 => ?_)
  refine ok_ite (fun c_1 => ?_) (fun c_1 => ?_)
  · simp only [fa_lt, fa_le, fa_eq] at c_1
    exact m_H_X12_sign_18 N hN N σ_1 τ x1 0 (by have : (0 : Int32).toInt = 0 := rfl; have : (13 : Int32).toInt = 13 := rfl; have : (76 : Int32).toInt = 76 := rfl; have : (80 : Int32).toInt = 80 := rfl; have : (199 : Int32).toInt = 199 := rfl; have := i32_rng (σ 199 13); have := congrArg Int32.toInt (show σ_1 199 13 = σ 199 13 from (by rw [e_1]; exact up2_ne (by omega))); have := i32_rng (σ_1 199 13); omega) (by have : (0 : Int32).toInt = 0 := rfl; have : (13 : Int32).toInt = 13 := rfl; have : (76 : Int32).toInt = 76 := rfl; have : (199 : Int32).toInt = 199 := rfl; have := i32_rng (σ 199 13); have := congrArg Int32.toInt (show σ_1 199 13 = σ 199 13 from (by rw [e_1]; exact up2_ne (by omega))); have := i32_rng (σ_1 199 13); omega) (by have : (13 : Int32).toInt = 13 := rfl; have : (76 : Int32).toInt = 76 := rfl; have : (199 : Int32).toInt = 199 := rfl; have := i32_rng (σ 199 13); have := congrArg Int32.toInt (show σ_1 199 13 = σ 199 13 from (by rw [e_1]; exact up2_ne (by omega))); have := i32_rng (σ_1 199 13); omega) (by have : (0 : Int32).toInt = 0 := rfl; have : (13 : Int32).toInt = 13 := rfl; have : (76 : Int32).toInt = 76 := rfl; have : (199 : Int32).toInt = 199 := rfl; have := i32_rng (σ 199 13); have := congrArg Int32.toInt (show σ_1 199 13 = σ 199 13 from (by rw [e_1]; exact up2_ne (by omega))); have := i32_rng (σ_1 199 13); omega)
  · simp only [fa_lt, fa_le, fa_eq] at c_1
    exact ok_r (by have : (0 : Int32).toInt = 0 := rfl; have : (13 : Int32).toInt = 13 := rfl; have : (76 : Int32).toInt = 76 := rfl; have : (80 : Int32).toInt = 80 := rfl; have : (199 : Int32).toInt = 199 := rfl; have := i32_rng (σ 199 13); have := congrArg Int32.toInt (show σ_1 199 13 = σ 199 13 from (by rw [e_1]; exact up2_ne (by omega))); have := i32_rng (σ_1 199 13); omega)
set_option maxHeartbeats 2000000 in
theorem m_B_X12_end_0 (N : Nat) (hN : 4294967296 ≤ N) (σ : gI) (τ : gJ) (x1 : Int32) (ht : 0 ≤ (σ 199 13).toInt ∧ (σ 199 13).toInt ≤ 80) : okp (fun (a : Int32) σ1 τ1 => 0 ≤ (σ1 199 13).toInt ∧ (σ1 199 13).toInt ≤ 80) (B_X12_end_0 N σ τ x1) := by
  unfold B_X12_end_0
  refine ok_nm (fun σ_1 e_1 => ?_)
  refine ok_bd2 (m_B_X12_in_0 N hN σ_1 τ x1.toInt64 0 ((σ_1 199 13).toInt64)) (fun r_2 σ_2 τ_2 q_2 hp_2 => ?_)
  have f_2 := fr_B_X12_in_0 N σ_1 τ x1.toInt64 0 ((σ_1 199 13).toInt64) q_2
  have g_2 : r_2.toInt = 0 ∨ (r_2.toInt = 1 ∧ 0 ≤ x1.toInt ∧ x1.toInt ≤ (σ_1 199 13).toInt) := (by have h := hp_2.2; simp only [Int32.toInt_toInt64, show (0 : Int64).toInt = 0 from rfl] at h; exact h)
  refine ok_ite (fun c_1 => ?_) (fun c_1 => ?_)
  · simp only [fa_lt, fa_le, fa_eq] at c_1
    exact ok_r (by have : (0 : Int32).toInt = 0 := rfl; have : (13 : Int32).toInt = 13 := rfl; have : (80 : Int32).toInt = 80 := rfl; have : (199 : Int32).toInt = 199 := rfl; have := congrArg Int32.toInt (show σ_1 199 13 = σ 199 13 from (by rw [e_1]; exact up2_ne (by omega))); have := i32_rng (σ_1 199 13); have := i32_rng (σ 199 13); have := congrArg Int32.toInt (show σ_2 199 13 = σ_1 199 13 from f_2.1 199 13 id); have := congrArg Int32.toInt (show σ_1 199 13 = σ 199 13 from (by rw [e_1]; exact up2_ne (by omega))); have := i32_rng (σ_2 199 13); have := i32_rng r_2; have := i32_rng x1; omega)
  · simp only [fa_lt, fa_le, fa_eq] at c_1
    refine ok_nm (fun σ_4 e_4 => ?_)
    exact ok_r (by have : (0 : Int32).toInt = 0 := rfl; have : (13 : Int32).toInt = 13 := rfl; have : (80 : Int32).toInt = 80 := rfl; have : (199 : Int32).toInt = 199 := rfl; have := congrArg Int32.toInt (show σ_1 199 13 = σ 199 13 from (by rw [e_1]; exact up2_ne (by omega))); have := i32_rng (σ_1 199 13); have := i32_rng (σ 199 13); have := congrArg Int32.toInt (show σ_4 199 13 = x1 from (by rw [e_4]; unfold up2; rw [if_pos ⟨rfl, rfl⟩])); have := i32_rng (σ_4 199 13); have := i32_rng r_2; have := i32_rng x1; omega)
theorem m_B_X12_isThing_0 (N : Nat) (hN : 4294967296 ≤ N) (M4 N4 P4 : Int32) (σ : gI) (τ : gJ) (x1 : Int32) (hR : RJ σ 206 M4 N4 P4) (hM : 0 ≤ M4.toInt ∧ M4.toInt ≤ 6) : okp (fun (a : Int32) σ1 τ1 => (a = 0 ∨ a = 1) ∧ (a.toInt = 0 ∨ (a.toInt = 1 ∧ 0 ≤ x1.toInt ∧ x1.toInt < M4.toInt))) (B_X12_isThing_0 N σ τ x1) := by
  unfold B_X12_isThing_0
  rw [hR.2.2.1]
  refine ok_bd (m_B_X12_in_0 N hN σ τ _ _ _) (fun r σ1 τ1 hp => ok_cb hp.1 (ok_r ⟨hp.1, ?_⟩))
  have h2 := hp.2
  have e0 : (0 : Int64).toInt = 0 := rfl
  have e1 : (1 : Int32).toInt = 1 := rfl
  rw [Int32.toInt_toInt64, Int32.toInt_toInt64, ti_sub (by rw [e1]; omega) (by rw [e1]; omega), e0, e1] at h2
  omega
set_option maxHeartbeats 2000000 in
theorem m_B_X12_of_0 (N : Nat) (hN : 4294967296 ≤ N) (M4 N4 P4 : Int32) (σ : gI) (τ : gJ) (x1 : Int32) (x2 : Int32) (hR : RJ σ 206 M4 N4 P4) (hM : 0 ≤ M4.toInt ∧ M4.toInt ≤ 6) : okp (fun (a : Int32) σ1 τ1 => True) (B_X12_of_0 N σ τ x1 x2) := by
  unfold B_X12_of_0
  refine ok_nm (fun σ_1 e_1 => ?_)
  have hR_1 : RJ σ_1 206 M4 N4 P4 := rj_up hR e_1 (by omega)
  refine ok_bd2 (m_B_X12_isThing_0 N hN M4 N4 P4 σ_1 τ x1 hR_1 hM) (fun r_2 σ_2 τ_2 q_2 hp_2 => ?_)
  have f_2 := fr_B_X12_isThing_0 N σ_1 τ x1 q_2
  have hR_2 : RJ σ_2 206 M4 N4 P4 := rj_fr hR_1 (fun c k h => f_2.1 c k id)
  have g_2 : r_2.toInt = 0 ∨ (r_2.toInt = 1 ∧ 0 ≤ x1.toInt ∧ x1.toInt < M4.toInt) := hp_2.2
  refine ok_ite (fun c_1 => ?_) (fun c_1 => ?_)
  · simp only [fa_lt, fa_le, fa_eq] at c_1
    refine ok_bd2 (m_B_X12_refuse_0 N hN σ_2 τ_2) (fun r_4 σ_4 τ_4 q_4 hp_4 => ?_)
    have f_4 := fr_B_X12_refuse_0 N σ_2 τ_2 q_4
    have hR_4 : RJ σ_4 206 M4 N4 P4 := rj_fr hR_2 (fun c k h => f_4.1 c k (by omega))
    exact ok_r trivial
  · simp only [fa_lt, fa_le, fa_eq] at c_1
    refine ok_bd2 (m_B_X12_in_0 N hN σ_2 τ_2 x2.toInt64 0 6) (fun r_5 σ_5 τ_5 q_5 hp_5 => ?_)
    have f_5 := fr_B_X12_in_0 N σ_2 τ_2 x2.toInt64 0 6 q_5
    have hR_5 : RJ σ_5 206 M4 N4 P4 := rj_fr hR_2 (fun c k h => f_5.1 c k id)
    have g_5 : r_5.toInt = 0 ∨ (r_5.toInt = 1 ∧ 0 ≤ x2.toInt ∧ x2.toInt ≤ 6) := (by have h := hp_5.2; simp only [Int32.toInt_toInt64, show (0 : Int64).toInt = 0 from rfl, show (6 : Int64).toInt = 6 from rfl] at h; exact h)
    refine ok_ite (fun c_2 => ?_) (fun c_2 => ?_)
    · simp only [fa_lt, fa_le, fa_eq] at c_2
      refine ok_bd2 (m_B_X12_refuse_0 N hN σ_5 τ_5) (fun r_12 σ_12 τ_12 q_12 hp_12 => ?_)
      have f_12 := fr_B_X12_refuse_0 N σ_5 τ_5 q_12
      have hR_12 : RJ σ_12 206 M4 N4 P4 := rj_fr hR_5 (fun c k h => f_12.1 c k (by omega))
      exact ok_r trivial
    · simp only [fa_lt, fa_le, fa_eq] at c_2
      refine ok_ck (by have : (0 : Int32).toInt = 0 := rfl; have : (7 : Int32).toInt = 7 := rfl; have : (45 : Int32).toInt = 45 := rfl; have := i32_rng r_2; have := i32_rng r_5; have := i32_rng x1; have := i32_rng x2; have := ti_mul7 (x := x1) (by omega); have : ((7 * x1) + x2).toInt = (7 * x1).toInt + x2.toInt := (ti_add (by omega) (by omega)); have q9 := ti_add (a := (7 * x1)) (b := x2) (by omega) (by omega); omega) (fun j_7 hj_7 lj_7 => ?_)
      refine ok_nm (fun v_8 e_8 => ?_)
      refine ok_ite (fun c_3 => ?_) (fun c_3 => ?_)
      · simp only [fa_lt, fa_le, fa_eq] at c_3
        refine ok_ck (by have : (0 : Int32).toInt = 0 := rfl; have : (4 : Int32).toInt = 4 := rfl; have : (5 : Int32).toInt = 5 := rfl; have : (7 : Int32).toInt = 7 := rfl; have : (45 : Int32).toInt = 45 := rfl; have := i32_rng r_2; have := i32_rng r_5; have := i32_rng x1; have := i32_rng x2; have := ti_mul7 (x := x1) (by omega); have : ((7 * x1) + (4 : Int32)).toInt = (7 * x1).toInt + (4 : Int32).toInt := (ti_add (by omega) (by omega)); have := ti_add (a := (7 * x1)) (b := x2) (by omega) (by omega); have q9 := ti_add (a := (7 * x1)) (b := (4 : Int32)) (by omega) (by omega); omega) (fun j_10 hj_10 lj_10 => ?_)
        refine ok_ite (fun c_4 => ?_) (fun c_4 => ?_)
        · simp only [fa_lt, fa_le, fa_eq] at c_4
          exact ok_r trivial
        · simp only [fa_lt, fa_le, fa_eq] at c_4
          exact ok_r trivial
      · simp only [fa_lt, fa_le, fa_eq] at c_3
        exact ok_r trivial
set_option maxHeartbeats 2000000 in
theorem m_C_X12_thoseHow_4 (N : Nat) (hN : 4294967296 ≤ N) (q : Nat) (M4 N4 P4 : Int32) (rec_4 : gI → gJ → Int32 → Int32 → Int32 → Option (Int32 × gI × gJ)) (n_4 : Nat) (hrec_4 : ∀ (σ : gI) (τ : gJ) (x1 : Int32) (x2 : Int32) (x3 : Int32), (RJ σ q M4 N4 P4) → (0 ≤ M4.toInt ∧ M4.toInt ≤ 6) → (q = 206 ∨ q = 207 ∨ q = 224) → (0 ≤ x3.toInt) → (2147483647 - x3.toInt).toNat < n_4 → okp (fun (a : Int32) σ1 τ1 => True) (rec_4 σ τ x1 x2 x3)) (σ : gI) (τ : gJ) (x1 : Int32) (x2 : Int32) (x3 : Int32) (hR : RJ σ q M4 N4 P4) (hM : 0 ≤ M4.toInt ∧ M4.toInt ≤ 6) (hq : q = 206 ∨ q = 207 ∨ q = 224) (h0_4 : 0 ≤ x3.toInt) (hm_4 : (2147483647 - x3.toInt).toNat < n_4 + 1) : okp (fun (a : Int32) σ1 τ1 => True) (C_X12_thoseHow_4 N q rec_4 σ τ x1 x2 x3) := by
  unfold C_X12_thoseHow_4
  refine ok_ite (fun c_1 => ?_) (fun c_1 => ?_)
  · simp only [fa_lt, fa_le, fa_eq] at c_1
    exact ok_r trivial
  · simp only [fa_lt, fa_le, fa_eq] at c_1
    refine ok_ck (by have : (0 : Int32).toInt = 0 := rfl; have : (4 : Int32).toInt = 4 := rfl; have : (7 : Int32).toInt = 7 := rfl; have : (44 : Int32).toInt = 44 := rfl; have : (45 : Int32).toInt = 45 := rfl; have := congrArg Int32.toInt hR.2.2.1; have := i32_rng (σ q 44); have := i32_rng x3; have := ti_mul7 (x := x3) (by omega); have : ((7 * x3) + (4 : Int32)).toInt = (7 * x3).toInt + (4 : Int32).toInt := (ti_add (by omega) (by omega)); have q9 := ti_add (a := (7 * x3)) (b := (4 : Int32)) (by omega) (by omega); omega) (fun j_2 hj_2 lj_2 => ?_)
    refine ok_ite (fun c_2 => ?_) (fun c_2 => ?_)
    · simp only [fa_lt, fa_le, fa_eq] at c_2
      refine ok_nm (fun v_6 e_6 => ?_)
      refine ok_nm (fun v_7 e_7 => ?_)
      exact hrec_4 σ τ x1 v_6 v_7 hR hM hq (by have : (0 : Int32).toInt = 0 := rfl; have : (1 : Int32).toInt = 1 := rfl; have : (44 : Int32).toInt = 44 := rfl; have := i32_rng (σ q j_2); have := congrArg Int32.toInt hR.2.2.1; have := i32_rng (σ q 44); have := i32_rng v_7; have := i32_rng x1; have := i32_rng x3; have u_v_7 : v_7.toInt = (x3).toInt + 1 := (by rw [e_7]; have q := ti_add (a := x3) (b := 1) (by rw [show (1 : Int32).toInt = 1 from rfl]; omega) (by rw [show (1 : Int32).toInt = 1 from rfl]; omega); rw [q, show (1 : Int32).toInt = 1 from rfl]); have := ti_mul7 (x := x3) (by omega); have : (4 : Int32).toInt = 4 := rfl; have := ti_add (a := (7 * x3)) (b := (4 : Int32)) (by omega) (by omega); omega) (by have : (1 : Int32).toInt = 1 := rfl; have : (44 : Int32).toInt = 44 := rfl; have := i32_rng (σ q j_2); have := congrArg Int32.toInt hR.2.2.1; have := i32_rng (σ q 44); have := i32_rng v_7; have := i32_rng x1; have := i32_rng x3; have u_v_7 : v_7.toInt = (x3).toInt + 1 := (by rw [e_7]; have q := ti_add (a := x3) (b := 1) (by rw [show (1 : Int32).toInt = 1 from rfl]; omega) (by rw [show (1 : Int32).toInt = 1 from rfl]; omega); rw [q, show (1 : Int32).toInt = 1 from rfl]); have := ti_mul7 (x := x3) (by omega); have : (4 : Int32).toInt = 4 := rfl; have := ti_add (a := (7 * x3)) (b := (4 : Int32)) (by omega) (by omega); omega)
    · simp only [fa_lt, fa_le, fa_eq] at c_2
      refine ok_nm (fun v_4 e_4 => ?_)
      refine ok_nm (fun v_5 e_5 => ?_)
      exact hrec_4 σ τ x1 v_4 v_5 hR hM hq (by have : (0 : Int32).toInt = 0 := rfl; have : (1 : Int32).toInt = 1 := rfl; have : (44 : Int32).toInt = 44 := rfl; have := i32_rng (σ q j_2); have := congrArg Int32.toInt hR.2.2.1; have := i32_rng (σ q 44); have := i32_rng v_5; have := i32_rng x1; have := i32_rng x3; have u_v_5 : v_5.toInt = (x3).toInt + 1 := (by rw [e_5]; have q := ti_add (a := x3) (b := 1) (by rw [show (1 : Int32).toInt = 1 from rfl]; omega) (by rw [show (1 : Int32).toInt = 1 from rfl]; omega); rw [q, show (1 : Int32).toInt = 1 from rfl]); have := ti_mul7 (x := x3) (by omega); have : (4 : Int32).toInt = 4 := rfl; have := ti_add (a := (7 * x3)) (b := (4 : Int32)) (by omega) (by omega); omega) (by have : (1 : Int32).toInt = 1 := rfl; have : (44 : Int32).toInt = 44 := rfl; have := i32_rng (σ q j_2); have := congrArg Int32.toInt hR.2.2.1; have := i32_rng (σ q 44); have := i32_rng v_5; have := i32_rng x1; have := i32_rng x3; have u_v_5 : v_5.toInt = (x3).toInt + 1 := (by rw [e_5]; have q := ti_add (a := x3) (b := 1) (by rw [show (1 : Int32).toInt = 1 from rfl]; omega) (by rw [show (1 : Int32).toInt = 1 from rfl]; omega); rw [q, show (1 : Int32).toInt = 1 from rfl]); have := ti_mul7 (x := x3) (by omega); have : (4 : Int32).toInt = 4 := rfl; have := ti_add (a := (7 * x3)) (b := (4 : Int32)) (by omega) (by omega); omega)
theorem m_H_X12_thoseHow_4 (N : Nat) (hN : 4294967296 ≤ N) (q : Nat) (M4 N4 P4 : Int32) : ∀ (n : Nat) (σ : gI) (τ : gJ) (x1 : Int32) (x2 : Int32) (x3 : Int32), (RJ σ q M4 N4 P4) → (0 ≤ M4.toInt ∧ M4.toInt ≤ 6) → (q = 206 ∨ q = 207 ∨ q = 224) → (0 ≤ x3.toInt) → (2147483647 - x3.toInt).toNat < n → okp (fun (a : Int32) σ1 τ1 => True) (H_X12_thoseHow_4 N q n σ τ x1 x2 x3) := by
  intro n
  induction n with
  | zero => intro σ τ x1 x2 x3 _ _ _ _ hm; exact absurd hm (Nat.not_lt_zero _)
  | succ n ih =>
    intro σ τ x1 x2 x3 hR hM hq h0_4 hm
    exact m_C_X12_thoseHow_4 N hN q M4 N4 P4 (H_X12_thoseHow_4 N q n) n ih σ τ x1 x2 x3 hR hM hq h0_4 hm
set_option maxHeartbeats 2000000 in
theorem m_B_X12_thoseHow_0 (N : Nat) (hN : 4294967296 ≤ N) (q : Nat) (M4 N4 P4 : Int32) (σ : gI) (τ : gJ) (x1 : Int32) (hR : RJ σ q M4 N4 P4) (hM : 0 ≤ M4.toInt ∧ M4.toInt ≤ 6) (hq : q = 206 ∨ q = 207 ∨ q = 224) : okp (fun (a : Int32) σ1 τ1 => True) (B_X12_thoseHow_0 N q σ τ x1) := by
  unfold B_X12_thoseHow_0
  exact m_H_X12_thoseHow_4 N hN q M4 N4 P4 N σ τ x1 0 0 hR hM hq (by have : (0 : Int32).toInt = 0 := rfl; omega) (by have : (0 : Int32).toInt = 0 := rfl; omega)
set_option maxHeartbeats 2000000 in
theorem m_C_X12_othersAt_4 (N : Nat) (hN : 4294967296 ≤ N) (q : Nat) (M4 N4 P4 : Int32) (rec_4 : gI → gJ → Int32 → Int32 → Int32 → Option (Int32 × gI × gJ)) (n_4 : Nat) (hrec_4 : ∀ (σ : gI) (τ : gJ) (x1 : Int32) (x2 : Int32) (x3 : Int32), (RJ σ q M4 N4 P4) → (0 ≤ M4.toInt ∧ M4.toInt ≤ 6) → (q = 206 ∨ q = 207 ∨ q = 224) → (0 ≤ x1.toInt ∧ x1.toInt < M4.toInt) → (0 ≤ x3.toInt) → (2147483647 - x3.toInt).toNat < n_4 → okp (fun (a : Int32) σ1 τ1 => True) (rec_4 σ τ x1 x2 x3)) (σ : gI) (τ : gJ) (x1 : Int32) (x2 : Int32) (x3 : Int32) (hR : RJ σ q M4 N4 P4) (hM : 0 ≤ M4.toInt ∧ M4.toInt ≤ 6) (hq : q = 206 ∨ q = 207 ∨ q = 224) (h1 : 0 ≤ x1.toInt ∧ x1.toInt < M4.toInt) (h0_4 : 0 ≤ x3.toInt) (hm_4 : (2147483647 - x3.toInt).toNat < n_4 + 1) : okp (fun (a : Int32) σ1 τ1 => True) (C_X12_othersAt_4 N q rec_4 σ τ x1 x2 x3) := by
  unfold C_X12_othersAt_4
  refine ok_ite (fun c_1 => ?_) (fun c_1 => ?_)
  · simp only [fa_lt, fa_le, fa_eq] at c_1
    exact ok_r trivial
  · simp only [fa_lt, fa_le, fa_eq] at c_1
    refine ok_ite (fun c_2 => ?_) (fun c_2 => ?_)
    · simp only [fa_lt, fa_le, fa_eq] at c_2
      refine ok_bd2 (m_B_X12_flag_0 N hN σ τ 0) (fun r_3 σ_3 τ_3 q_3 hp_3 => ?_)
      have f_3 := fr_B_X12_flag_0 N σ τ 0 q_3
      have hR_3 : RJ σ_3 q M4 N4 P4 := rj_fr hR (fun c k h => f_3.1 c k id)
      have g_3 : ((0 : Int32).toInt = 0 → r_3.toInt = 0) ∧ (¬ (0 : Int32).toInt = 0 → r_3.toInt = 1) := hp_3.2
      refine ok_nm (fun v_4 e_4 => ?_)
      refine ok_nm (fun v_5 e_5 => ?_)
      exact hrec_4 σ_3 τ_3 x1 v_4 v_5 hR_3 hM hq h1 (by have : (0 : Int32).toInt = 0 := rfl; have : (1 : Int32).toInt = 1 := rfl; have : (44 : Int32).toInt = 44 := rfl; have := congrArg Int32.toInt hR.2.2.1; have := i32_rng (σ q 44); have := i32_rng r_3; have := i32_rng v_5; have := i32_rng x1; have := i32_rng x3; have u_v_5 : v_5.toInt = (x3).toInt + 1 := (by rw [e_5]; have q := ti_add (a := x3) (b := 1) (by rw [show (1 : Int32).toInt = 1 from rfl]; omega) (by rw [show (1 : Int32).toInt = 1 from rfl]; omega); rw [q, show (1 : Int32).toInt = 1 from rfl]); have : (0 : Int32).toInt = 0 := rfl; omega) (by have : (1 : Int32).toInt = 1 := rfl; have : (44 : Int32).toInt = 44 := rfl; have := congrArg Int32.toInt hR.2.2.1; have := i32_rng (σ q 44); have := i32_rng r_3; have := i32_rng v_5; have := i32_rng x1; have := i32_rng x3; have u_v_5 : v_5.toInt = (x3).toInt + 1 := (by rw [e_5]; have q := ti_add (a := x3) (b := 1) (by rw [show (1 : Int32).toInt = 1 from rfl]; omega) (by rw [show (1 : Int32).toInt = 1 from rfl]; omega); rw [q, show (1 : Int32).toInt = 1 from rfl]); have : (0 : Int32).toInt = 0 := rfl; omega)
    · simp only [fa_lt, fa_le, fa_eq] at c_2
      refine ok_ck (by have : (0 : Int32).toInt = 0 := rfl; have : (4 : Int32).toInt = 4 := rfl; have : (7 : Int32).toInt = 7 := rfl; have : (44 : Int32).toInt = 44 := rfl; have : (45 : Int32).toInt = 45 := rfl; have := congrArg Int32.toInt hR.2.2.1; have := i32_rng (σ q 44); have := i32_rng x1; have := i32_rng x3; have := ti_mul7 (x := x3) (by omega); have : ((7 * x3) + (4 : Int32)).toInt = (7 * x3).toInt + (4 : Int32).toInt := (ti_add (by omega) (by omega)); have q9 := ti_add (a := (7 * x3)) (b := (4 : Int32)) (by omega) (by omega); omega) (fun j_6 hj_6 lj_6 => ?_)
      refine ok_ite (fun c_3 => ?_) (fun c_3 => ?_)
      · simp only [fa_lt, fa_le, fa_eq] at c_3
        refine ok_ck (by have : (0 : Int32).toInt = 0 := rfl; have : (7 : Int32).toInt = 7 := rfl; have : (44 : Int32).toInt = 44 := rfl; have : (45 : Int32).toInt = 45 := rfl; have := i32_rng (σ q j_6); have := congrArg Int32.toInt hR.2.2.1; have := i32_rng (σ q 44); have := i32_rng x1; have := i32_rng x3; have := ti_mul7 (x := x3) (by omega); have : ((7 * x3) + (0 : Int32)).toInt = (7 * x3).toInt + (0 : Int32).toInt := (ti_add (by omega) (by omega)); have : (4 : Int32).toInt = 4 := rfl; have := ti_add (a := (7 * x3)) (b := (4 : Int32)) (by omega) (by omega); have q9 := ti_add (a := (7 * x3)) (b := (0 : Int32)) (by omega) (by omega); omega) (fun j_11 hj_11 lj_11 => ?_)
        refine ok_ck (by have : (0 : Int32).toInt = 0 := rfl; have : (7 : Int32).toInt = 7 := rfl; have : (44 : Int32).toInt = 44 := rfl; have : (45 : Int32).toInt = 45 := rfl; have := i32_rng (σ q j_6); have := congrArg Int32.toInt hR.2.2.1; have := i32_rng (σ q 44); have := i32_rng x1; have := i32_rng x3; have := ti_mul7 (x := x1) (by omega); have := ti_mul7 (x := x3) (by omega); have : ((7 * x1) + (0 : Int32)).toInt = (7 * x1).toInt + (0 : Int32).toInt := (ti_add (by omega) (by omega)); have : (4 : Int32).toInt = 4 := rfl; have := ti_add (a := (7 * x3)) (b := (4 : Int32)) (by omega) (by omega); have : (0 : Int32).toInt = 0 := rfl; have := ti_add (a := (7 * x3)) (b := (0 : Int32)) (by omega) (by omega); have q9 := ti_add (a := (7 * x1)) (b := (0 : Int32)) (by omega) (by omega); omega) (fun j_12 hj_12 lj_12 => ?_)
        refine ok_ite (fun c_4 => ?_) (fun c_4 => ?_)
        · simp only [fa_lt, fa_le, fa_eq] at c_4
          refine ok_bd2 (m_B_X12_flag_0 N hN σ τ 1) (fun r_17 σ_17 τ_17 q_17 hp_17 => ?_)
          have f_17 := fr_B_X12_flag_0 N σ τ 1 q_17
          have hR_17 : RJ σ_17 q M4 N4 P4 := rj_fr hR (fun c k h => f_17.1 c k id)
          have g_17 : ((1 : Int32).toInt = 0 → r_17.toInt = 0) ∧ (¬ (1 : Int32).toInt = 0 → r_17.toInt = 1) := hp_17.2
          refine ok_nm (fun v_18 e_18 => ?_)
          refine ok_nm (fun v_19 e_19 => ?_)
          exact hrec_4 σ_17 τ_17 x1 v_18 v_19 hR_17 hM hq h1 (by have : (0 : Int32).toInt = 0 := rfl; have : (1 : Int32).toInt = 1 := rfl; have : (44 : Int32).toInt = 44 := rfl; have := i32_rng (σ q j_11); have := i32_rng (σ q j_12); have := i32_rng (σ q j_6); have := congrArg Int32.toInt hR.2.2.1; have := i32_rng (σ q 44); have := i32_rng r_17; have := i32_rng v_19; have := i32_rng x1; have := i32_rng x3; have u_v_19 : v_19.toInt = (x3).toInt + 1 := (by rw [e_19]; have q := ti_add (a := x3) (b := 1) (by rw [show (1 : Int32).toInt = 1 from rfl]; omega) (by rw [show (1 : Int32).toInt = 1 from rfl]; omega); rw [q, show (1 : Int32).toInt = 1 from rfl]); have := ti_mul7 (x := x1) (by omega); have := ti_mul7 (x := x3) (by omega); have : (1 : Int32).toInt = 1 := rfl; have : (4 : Int32).toInt = 4 := rfl; have := ti_add (a := (7 * x3)) (b := (4 : Int32)) (by omega) (by omega); have : (0 : Int32).toInt = 0 := rfl; have := ti_add (a := (7 * x3)) (b := (0 : Int32)) (by omega) (by omega); have : (0 : Int32).toInt = 0 := rfl; have := ti_add (a := (7 * x1)) (b := (0 : Int32)) (by omega) (by omega); omega) (by have : (0 : Int32).toInt = 0 := rfl; have : (1 : Int32).toInt = 1 := rfl; have : (44 : Int32).toInt = 44 := rfl; have := i32_rng (σ q j_11); have := i32_rng (σ q j_12); have := i32_rng (σ q j_6); have := congrArg Int32.toInt hR.2.2.1; have := i32_rng (σ q 44); have := i32_rng r_17; have := i32_rng v_19; have := i32_rng x1; have := i32_rng x3; have u_v_19 : v_19.toInt = (x3).toInt + 1 := (by rw [e_19]; have q := ti_add (a := x3) (b := 1) (by rw [show (1 : Int32).toInt = 1 from rfl]; omega) (by rw [show (1 : Int32).toInt = 1 from rfl]; omega); rw [q, show (1 : Int32).toInt = 1 from rfl]); have := ti_mul7 (x := x1) (by omega); have := ti_mul7 (x := x3) (by omega); have : (1 : Int32).toInt = 1 := rfl; have : (4 : Int32).toInt = 4 := rfl; have := ti_add (a := (7 * x3)) (b := (4 : Int32)) (by omega) (by omega); have : (0 : Int32).toInt = 0 := rfl; have := ti_add (a := (7 * x3)) (b := (0 : Int32)) (by omega) (by omega); have : (0 : Int32).toInt = 0 := rfl; have := ti_add (a := (7 * x1)) (b := (0 : Int32)) (by omega) (by omega); omega)
        · simp only [fa_lt, fa_le, fa_eq] at c_4
          refine ok_bd2 (m_B_X12_flag_0 N hN σ τ 0) (fun r_14 σ_14 τ_14 q_14 hp_14 => ?_)
          have f_14 := fr_B_X12_flag_0 N σ τ 0 q_14
          have hR_14 : RJ σ_14 q M4 N4 P4 := rj_fr hR (fun c k h => f_14.1 c k id)
          have g_14 : ((0 : Int32).toInt = 0 → r_14.toInt = 0) ∧ (¬ (0 : Int32).toInt = 0 → r_14.toInt = 1) := hp_14.2
          refine ok_nm (fun v_15 e_15 => ?_)
          refine ok_nm (fun v_16 e_16 => ?_)
          exact hrec_4 σ_14 τ_14 x1 v_15 v_16 hR_14 hM hq h1 (by have : (0 : Int32).toInt = 0 := rfl; have : (1 : Int32).toInt = 1 := rfl; have : (44 : Int32).toInt = 44 := rfl; have := i32_rng (σ q j_11); have := i32_rng (σ q j_12); have := i32_rng (σ q j_6); have := congrArg Int32.toInt hR.2.2.1; have := i32_rng (σ q 44); have := i32_rng r_14; have := i32_rng v_16; have := i32_rng x1; have := i32_rng x3; have u_v_16 : v_16.toInt = (x3).toInt + 1 := (by rw [e_16]; have q := ti_add (a := x3) (b := 1) (by rw [show (1 : Int32).toInt = 1 from rfl]; omega) (by rw [show (1 : Int32).toInt = 1 from rfl]; omega); rw [q, show (1 : Int32).toInt = 1 from rfl]); have := ti_mul7 (x := x1) (by omega); have := ti_mul7 (x := x3) (by omega); have : (0 : Int32).toInt = 0 := rfl; have : (4 : Int32).toInt = 4 := rfl; have := ti_add (a := (7 * x3)) (b := (4 : Int32)) (by omega) (by omega); have : (0 : Int32).toInt = 0 := rfl; have := ti_add (a := (7 * x3)) (b := (0 : Int32)) (by omega) (by omega); have : (0 : Int32).toInt = 0 := rfl; have := ti_add (a := (7 * x1)) (b := (0 : Int32)) (by omega) (by omega); omega) (by have : (0 : Int32).toInt = 0 := rfl; have : (1 : Int32).toInt = 1 := rfl; have : (44 : Int32).toInt = 44 := rfl; have := i32_rng (σ q j_11); have := i32_rng (σ q j_12); have := i32_rng (σ q j_6); have := congrArg Int32.toInt hR.2.2.1; have := i32_rng (σ q 44); have := i32_rng r_14; have := i32_rng v_16; have := i32_rng x1; have := i32_rng x3; have u_v_16 : v_16.toInt = (x3).toInt + 1 := (by rw [e_16]; have q := ti_add (a := x3) (b := 1) (by rw [show (1 : Int32).toInt = 1 from rfl]; omega) (by rw [show (1 : Int32).toInt = 1 from rfl]; omega); rw [q, show (1 : Int32).toInt = 1 from rfl]); have := ti_mul7 (x := x1) (by omega); have := ti_mul7 (x := x3) (by omega); have : (0 : Int32).toInt = 0 := rfl; have : (4 : Int32).toInt = 4 := rfl; have := ti_add (a := (7 * x3)) (b := (4 : Int32)) (by omega) (by omega); have : (0 : Int32).toInt = 0 := rfl; have := ti_add (a := (7 * x3)) (b := (0 : Int32)) (by omega) (by omega); have : (0 : Int32).toInt = 0 := rfl; have := ti_add (a := (7 * x1)) (b := (0 : Int32)) (by omega) (by omega); omega)
      · simp only [fa_lt, fa_le, fa_eq] at c_3
        refine ok_bd2 (m_B_X12_flag_0 N hN σ τ 0) (fun r_8 σ_8 τ_8 q_8 hp_8 => ?_)
        have f_8 := fr_B_X12_flag_0 N σ τ 0 q_8
        have hR_8 : RJ σ_8 q M4 N4 P4 := rj_fr hR (fun c k h => f_8.1 c k id)
        have g_8 : ((0 : Int32).toInt = 0 → r_8.toInt = 0) ∧ (¬ (0 : Int32).toInt = 0 → r_8.toInt = 1) := hp_8.2
        refine ok_nm (fun v_9 e_9 => ?_)
        refine ok_nm (fun v_10 e_10 => ?_)
        exact hrec_4 σ_8 τ_8 x1 v_9 v_10 hR_8 hM hq h1 (by have : (0 : Int32).toInt = 0 := rfl; have : (1 : Int32).toInt = 1 := rfl; have : (44 : Int32).toInt = 44 := rfl; have := i32_rng (σ q j_6); have := congrArg Int32.toInt hR.2.2.1; have := i32_rng (σ q 44); have := i32_rng r_8; have := i32_rng v_10; have := i32_rng x1; have := i32_rng x3; have u_v_10 : v_10.toInt = (x3).toInt + 1 := (by rw [e_10]; have q := ti_add (a := x3) (b := 1) (by rw [show (1 : Int32).toInt = 1 from rfl]; omega) (by rw [show (1 : Int32).toInt = 1 from rfl]; omega); rw [q, show (1 : Int32).toInt = 1 from rfl]); have := ti_mul7 (x := x3) (by omega); have : (0 : Int32).toInt = 0 := rfl; have : (4 : Int32).toInt = 4 := rfl; have := ti_add (a := (7 * x3)) (b := (4 : Int32)) (by omega) (by omega); omega) (by have : (0 : Int32).toInt = 0 := rfl; have : (1 : Int32).toInt = 1 := rfl; have : (44 : Int32).toInt = 44 := rfl; have := i32_rng (σ q j_6); have := congrArg Int32.toInt hR.2.2.1; have := i32_rng (σ q 44); have := i32_rng r_8; have := i32_rng v_10; have := i32_rng x1; have := i32_rng x3; have u_v_10 : v_10.toInt = (x3).toInt + 1 := (by rw [e_10]; have q := ti_add (a := x3) (b := 1) (by rw [show (1 : Int32).toInt = 1 from rfl]; omega) (by rw [show (1 : Int32).toInt = 1 from rfl]; omega); rw [q, show (1 : Int32).toInt = 1 from rfl]); have := ti_mul7 (x := x3) (by omega); have : (0 : Int32).toInt = 0 := rfl; have : (4 : Int32).toInt = 4 := rfl; have := ti_add (a := (7 * x3)) (b := (4 : Int32)) (by omega) (by omega); omega)
theorem m_H_X12_othersAt_4 (N : Nat) (hN : 4294967296 ≤ N) (q : Nat) (M4 N4 P4 : Int32) : ∀ (n : Nat) (σ : gI) (τ : gJ) (x1 : Int32) (x2 : Int32) (x3 : Int32), (RJ σ q M4 N4 P4) → (0 ≤ M4.toInt ∧ M4.toInt ≤ 6) → (q = 206 ∨ q = 207 ∨ q = 224) → (0 ≤ x1.toInt ∧ x1.toInt < M4.toInt) → (0 ≤ x3.toInt) → (2147483647 - x3.toInt).toNat < n → okp (fun (a : Int32) σ1 τ1 => True) (H_X12_othersAt_4 N q n σ τ x1 x2 x3) := by
  intro n
  induction n with
  | zero => intro σ τ x1 x2 x3 _ _ _ _ _ hm; exact absurd hm (Nat.not_lt_zero _)
  | succ n ih =>
    intro σ τ x1 x2 x3 hR hM hq h1 h0_4 hm
    exact m_C_X12_othersAt_4 N hN q M4 N4 P4 (H_X12_othersAt_4 N q n) n ih σ τ x1 x2 x3 hR hM hq h1 h0_4 hm
set_option maxHeartbeats 2000000 in
theorem m_B_X12_othersAt_0 (N : Nat) (hN : 4294967296 ≤ N) (q : Nat) (M4 N4 P4 : Int32) (σ : gI) (τ : gJ) (x1 : Int32) (hR : RJ σ q M4 N4 P4) (hM : 0 ≤ M4.toInt ∧ M4.toInt ≤ 6) (hq : q = 206 ∨ q = 207 ∨ q = 224) (h1 : 0 ≤ x1.toInt ∧ x1.toInt < M4.toInt) : okp (fun (a : Int32) σ1 τ1 => True) (B_X12_othersAt_0 N q σ τ x1) := by
  unfold B_X12_othersAt_0
  exact m_H_X12_othersAt_4 N hN q M4 N4 P4 N σ τ x1 0 0 hR hM hq h1 (by have : (0 : Int32).toInt = 0 := rfl; have := i32_rng x1; omega) (by have : (0 : Int32).toInt = 0 := rfl; have := i32_rng x1; omega)
set_option maxHeartbeats 2000000 in
theorem m_C_X12_forks_4 (N : Nat) (hN : 4294967296 ≤ N) (rec_4 : gI → gJ → Int32 → Int32 → Option (Int32 × gI × gJ)) (n_4 : Nat) (hrec_4 : ∀ (σ : gI) (τ : gJ) (x1 : Int32) (x2 : Int32), (SI σ) → (0 ≤ x2.toInt) → (2147483647 - x2.toInt).toNat < n_4 → okp (fun (a : Int32) σ1 τ1 => True) (rec_4 σ τ x1 x2)) (σ : gI) (τ : gJ) (x1 : Int32) (x2 : Int32) (hS : SI σ) (h0_4 : 0 ≤ x2.toInt) (hm_4 : (2147483647 - x2.toInt).toNat < n_4 + 1) : okp (fun (a : Int32) σ1 τ1 => True) (C_X12_forks_4 N rec_4 σ τ x1 x2) := by
  unfold C_X12_forks_4
  refine ok_ite (fun c_1 => ?_) (fun c_1 => ?_)
  · simp only [fa_lt, fa_le, fa_eq] at c_1
    exact ok_r trivial
  · simp only [fa_lt, fa_le, fa_eq] at c_1
    refine ok_ck (by have : (0 : Int32).toInt = 0 := rfl; have : (3 : Int32).toInt = 3 := rfl; have : (12 : Int32).toInt = 12 := rfl; have : (199 : Int32).toInt = 199 := rfl; have := i32_rng (σ 199 3); have := i32_rng x2; have := hS.1.1; omega) (fun j_2 hj_2 lj_2 => ?_)
    refine ok_ite (fun c_2 => ?_) (fun c_2 => ?_)
    · simp only [fa_lt, fa_le, fa_eq] at c_2
      refine ok_nm (fun v_6 e_6 => ?_)
      refine ok_nm (fun v_7 e_7 => ?_)
      exact hrec_4 σ τ v_6 v_7 hS (by have : (0 : Int32).toInt = 0 := rfl; have : (1 : Int32).toInt = 1 := rfl; have : (3 : Int32).toInt = 3 := rfl; have : (199 : Int32).toInt = 199 := rfl; have : (201 : Int32).toInt = 201 := rfl; have := i32_rng (σ 201 j_2); have := i32_rng (σ 199 3); have := i32_rng v_7; have := i32_rng x2; have u_v_7 : v_7.toInt = (x2).toInt + 1 := (by rw [e_7]; have q := ti_add (a := x2) (b := 1) (by rw [show (1 : Int32).toInt = 1 from rfl]; omega) (by rw [show (1 : Int32).toInt = 1 from rfl]; omega); rw [q, show (1 : Int32).toInt = 1 from rfl]); have := hS.1.1; omega) (by have : (1 : Int32).toInt = 1 := rfl; have : (3 : Int32).toInt = 3 := rfl; have : (199 : Int32).toInt = 199 := rfl; have : (201 : Int32).toInt = 201 := rfl; have := i32_rng (σ 201 j_2); have := i32_rng (σ 199 3); have := i32_rng v_7; have := i32_rng x2; have u_v_7 : v_7.toInt = (x2).toInt + 1 := (by rw [e_7]; have q := ti_add (a := x2) (b := 1) (by rw [show (1 : Int32).toInt = 1 from rfl]; omega) (by rw [show (1 : Int32).toInt = 1 from rfl]; omega); rw [q, show (1 : Int32).toInt = 1 from rfl]); have := hS.1.1; omega)
    · simp only [fa_lt, fa_le, fa_eq] at c_2
      refine ok_nm (fun v_4 e_4 => ?_)
      refine ok_nm (fun v_5 e_5 => ?_)
      exact hrec_4 σ τ v_4 v_5 hS (by have : (0 : Int32).toInt = 0 := rfl; have : (1 : Int32).toInt = 1 := rfl; have : (3 : Int32).toInt = 3 := rfl; have : (199 : Int32).toInt = 199 := rfl; have : (201 : Int32).toInt = 201 := rfl; have := i32_rng (σ 201 j_2); have := i32_rng (σ 199 3); have := i32_rng v_5; have := i32_rng x2; have u_v_5 : v_5.toInt = (x2).toInt + 1 := (by rw [e_5]; have q := ti_add (a := x2) (b := 1) (by rw [show (1 : Int32).toInt = 1 from rfl]; omega) (by rw [show (1 : Int32).toInt = 1 from rfl]; omega); rw [q, show (1 : Int32).toInt = 1 from rfl]); have := hS.1.1; omega) (by have : (1 : Int32).toInt = 1 := rfl; have : (3 : Int32).toInt = 3 := rfl; have : (199 : Int32).toInt = 199 := rfl; have : (201 : Int32).toInt = 201 := rfl; have := i32_rng (σ 201 j_2); have := i32_rng (σ 199 3); have := i32_rng v_5; have := i32_rng x2; have u_v_5 : v_5.toInt = (x2).toInt + 1 := (by rw [e_5]; have q := ti_add (a := x2) (b := 1) (by rw [show (1 : Int32).toInt = 1 from rfl]; omega) (by rw [show (1 : Int32).toInt = 1 from rfl]; omega); rw [q, show (1 : Int32).toInt = 1 from rfl]); have := hS.1.1; omega)
theorem m_H_X12_forks_4 (N : Nat) (hN : 4294967296 ≤ N) : ∀ (n : Nat) (σ : gI) (τ : gJ) (x1 : Int32) (x2 : Int32), (SI σ) → (0 ≤ x2.toInt) → (2147483647 - x2.toInt).toNat < n → okp (fun (a : Int32) σ1 τ1 => True) (H_X12_forks_4 N n σ τ x1 x2) := by
  intro n
  induction n with
  | zero => intro σ τ x1 x2 _ _ hm; exact absurd hm (Nat.not_lt_zero _)
  | succ n ih =>
    intro σ τ x1 x2 hS h0_4 hm
    exact m_C_X12_forks_4 N hN (H_X12_forks_4 N n) n ih σ τ x1 x2 hS h0_4 hm
set_option maxHeartbeats 2000000 in
theorem m_B_X12_forks_0 (N : Nat) (hN : 4294967296 ≤ N) (σ : gI) (τ : gJ) (hS : SI σ) : okp (fun (a : Int32) σ1 τ1 => True) (B_X12_forks_0 N σ τ) := by
  unfold B_X12_forks_0
  exact m_H_X12_forks_4 N hN N σ τ 0 0 hS (by have : (0 : Int32).toInt = 0 := rfl; have := hS.1.1; omega) (by have : (0 : Int32).toInt = 0 := rfl; have := hS.1.1; omega)
set_option maxHeartbeats 2000000 in
theorem m_B_X12_ends_0 (N : Nat) (hN : 4294967296 ≤ N) (q : Nat) (M4 N4 P4 : Int32) (σ : gI) (τ : gJ) (x2 : Int32) (x3 : Int32) (hR : RJ σ q M4 N4 P4) (hM : 0 ≤ M4.toInt ∧ M4.toInt ≤ 6) (hq : q = 206 ∨ q = 207 ∨ q = 224) (h2 : 0 ≤ x2.toInt ∧ x2.toInt < M4.toInt) : okp (fun (a : Unit) σ1 τ1 => RJ σ1 q M4 N4 P4) (B_X12_ends_0 N q σ τ x2 x3) := by
  unfold B_X12_ends_0
  refine ok_ck (by have : (0 : Int32).toInt = 0 := rfl; have : (4 : Int32).toInt = 4 := rfl; have : (7 : Int32).toInt = 7 := rfl; have : (45 : Int32).toInt = 45 := rfl; have := i32_rng x2; have := ti_mul7 (x := x2) (by omega); have : ((7 * x2) + (4 : Int32)).toInt = (7 * x2).toInt + (4 : Int32).toInt := (ti_add (by omega) (by omega)); have q9 := ti_add (a := (7 * x2)) (b := (4 : Int32)) (by omega) (by omega); omega) (fun j_1 hj_1 lj_1 => ?_)
  refine ok_nm (fun σ_2 e_2 => ?_)
  have hR_2 : RJ σ_2 q M4 N4 P4 := rj_upq hR e_2 (by omega) (by omega) (by have : (42 : Int32).toInt = 42 := rfl; have := i32_rng x2; have := ti_mul7 (x := x2) (by omega); have : (4 : Int32).toInt = 4 := rfl; have := ti_add (a := (7 * x2)) (b := (4 : Int32)) (by omega) (by omega); omega) (fun h9 => False.elim (by have := i32_rng x2; have := ti_mul7 (x := x2) (by omega); have : (4 : Int32).toInt = 4 := rfl; have := ti_add (a := (7 * x2)) (b := (4 : Int32)) (by omega) (by omega); omega))
  refine ok_ck (by have : (0 : Int32).toInt = 0 := rfl; have : (6 : Int32).toInt = 6 := rfl; have : (7 : Int32).toInt = 7 := rfl; have : (45 : Int32).toInt = 45 := rfl; have := i32_rng x2; have := ti_mul7 (x := x2) (by omega); have : ((7 * x2) + (6 : Int32)).toInt = (7 * x2).toInt + (6 : Int32).toInt := (ti_add (by omega) (by omega)); have : (4 : Int32).toInt = 4 := rfl; have := ti_add (a := (7 * x2)) (b := (4 : Int32)) (by omega) (by omega); have q9 := ti_add (a := (7 * x2)) (b := (6 : Int32)) (by omega) (by omega); omega) (fun j_3 hj_3 lj_3 => ?_)
  refine ok_nm (fun σ_4 e_4 => ?_)
  have hR_4 : RJ σ_4 q M4 N4 P4 := rj_upq hR_2 e_4 (by omega) (by omega) (by have : (42 : Int32).toInt = 42 := rfl; have := i32_rng x2; have := ti_mul7 (x := x2) (by omega); have : (4 : Int32).toInt = 4 := rfl; have := ti_add (a := (7 * x2)) (b := (4 : Int32)) (by omega) (by omega); have : (6 : Int32).toInt = 6 := rfl; have := ti_add (a := (7 * x2)) (b := (6 : Int32)) (by omega) (by omega); omega) (fun h9 => False.elim (by have := i32_rng x2; have := ti_mul7 (x := x2) (by omega); have : (4 : Int32).toInt = 4 := rfl; have := ti_add (a := (7 * x2)) (b := (4 : Int32)) (by omega) (by omega); have : (6 : Int32).toInt = 6 := rfl; have := ti_add (a := (7 * x2)) (b := (6 : Int32)) (by omega) (by omega); omega))
  exact ok_r hR_4
set_option maxHeartbeats 2000000 in
theorem m_B_X12_waterIn_72 (N : Nat) (hN : 4294967296 ≤ N) (σ : gI) (τ : gJ) (x3 : Int32) (y0 : Int32) : okp (fun (a : Int32) σ1 τ1 => True) (B_X12_waterIn_72 N σ τ x3 y0) := by
  unfold B_X12_waterIn_72
  refine ok_ite (fun c_1 => ?_) (fun c_1 => ?_)
  · simp only [fa_lt, fa_le, fa_eq] at c_1
    exact ok_r trivial
  · simp only [fa_lt, fa_le, fa_eq] at c_1
    exact ok_r trivial
set_option maxHeartbeats 2000000 in
theorem m_B_X12_waterIn_27 (N : Nat) (hN : 4294967296 ≤ N) (σ : gI) (τ : gJ) (x2 : Int32) (y0 : Int32) : okp (fun (a : Int32) σ1 τ1 => True) (B_X12_waterIn_27 N σ τ x2 y0) := by
  unfold B_X12_waterIn_27
  refine ok_ite (fun c_1 => ?_) (fun c_1 => ?_)
  · simp only [fa_lt, fa_le, fa_eq] at c_1
    exact m_B_X12_waterIn_72 N hN σ τ y0 0
  · simp only [fa_lt, fa_le, fa_eq] at c_1
    refine ok_ite (fun c_2 => ?_) (fun c_2 => ?_)
    · simp only [fa_lt, fa_le, fa_eq] at c_2
      exact m_B_X12_waterIn_72 N hN σ τ y0 0
    · simp only [fa_lt, fa_le, fa_eq] at c_2
      refine ok_bd2 (m_B_X12_has_0 N hN σ τ (σ 199 31) (imax 0 (x2 - (σ 199 32)))) (fun r_3 σ_3 τ_3 q_3 hp_3 => ?_)
      have f_3 := fr_B_X12_has_0 N σ τ (σ 199 31) (imax 0 (x2 - (σ 199 32))) q_3
      refine ok_ite (fun c_3 => ?_) (fun c_3 => ?_)
      · simp only [fa_lt, fa_le, fa_eq] at c_3
        exact m_B_X12_waterIn_72 N hN σ_3 τ_3 y0 0
      · simp only [fa_lt, fa_le, fa_eq] at c_3
        exact m_B_X12_waterIn_72 N hN σ_3 τ_3 y0 1
set_option maxHeartbeats 2000000 in
theorem m_B_X12_waterIn_0 (N : Nat) (hN : 4294967296 ≤ N) (σ : gI) (τ : gJ) (x1 : Int32) (hS : SI σ) (h1 : 0 ≤ x1.toInt) : okp (fun (a : Int32) σ1 τ1 => True) (B_X12_waterIn_0 N σ τ x1) := by
  unfold B_X12_waterIn_0
  refine ok_nm (fun v_1 e_1 => ?_)
  refine ok_ite (fun c_1 => ?_) (fun c_1 => ?_)
  · simp only [fa_lt, fa_le, fa_eq] at c_1
    exact m_B_X12_waterIn_27 N hN σ τ v_1 1
  · simp only [fa_lt, fa_le, fa_eq] at c_1
    refine ok_dz (fun h9 => c_1 (congrArg Int32.toInt h9)) ?_
    refine ok_ck (wi_in hS.2.1 c_1 e_1 h1) (fun j_4 hj_4 lj_4 => ?_)
    exact m_B_X12_waterIn_27 N hN σ τ v_1 (σ 205 j_4)
set_option maxHeartbeats 2000000 in
theorem m_B_X12_worked_0 (N : Nat) (hN : 4294967296 ≤ N) (σ : gI) (τ : gJ) (x0 : Int32) (x1 : Int32) (x2 : Int32) : okp (fun (a : Int32) σ1 τ1 => True) (B_X12_worked_0 N σ τ x0 x1 x2) := by
  unfold B_X12_worked_0
  refine ok_ite (fun c_1 => ?_) (fun c_1 => ?_)
  · simp only [fa_lt, fa_le, fa_eq] at c_1
    refine ok_ite (fun c_2 => ?_) (fun c_2 => ?_)
    · simp only [fa_lt, fa_le, fa_eq] at c_2
      refine ok_bd2 (m_B_X12_flag_0 N hN σ τ 0) (fun r_3 σ_3 τ_3 q_3 hp_3 => ?_)
      have f_3 := fr_B_X12_flag_0 N σ τ 0 q_3
      have g_3 : ((0 : Int32).toInt = 0 → r_3.toInt = 0) ∧ (¬ (0 : Int32).toInt = 0 → r_3.toInt = 1) := hp_3.2
      exact ok_r trivial
    · simp only [fa_lt, fa_le, fa_eq] at c_2
      refine ok_bd2 (m_B_X12_flag_0 N hN σ τ 1) (fun r_4 σ_4 τ_4 q_4 hp_4 => ?_)
      have f_4 := fr_B_X12_flag_0 N σ τ 1 q_4
      have g_4 : ((1 : Int32).toInt = 0 → r_4.toInt = 0) ∧ (¬ (1 : Int32).toInt = 0 → r_4.toInt = 1) := hp_4.2
      exact ok_r trivial
  · simp only [fa_lt, fa_le, fa_eq] at c_1
    refine ok_ite (fun c_3 => ?_) (fun c_3 => ?_)
    · simp only [fa_lt, fa_le, fa_eq] at c_3
      refine ok_ite (fun c_4 => ?_) (fun c_4 => ?_)
      · simp only [fa_lt, fa_le, fa_eq] at c_4
        refine ok_bd2 (m_B_X12_flag_0 N hN σ τ 0) (fun r_7 σ_7 τ_7 q_7 hp_7 => ?_)
        have f_7 := fr_B_X12_flag_0 N σ τ 0 q_7
        have g_7 : ((0 : Int32).toInt = 0 → r_7.toInt = 0) ∧ (¬ (0 : Int32).toInt = 0 → r_7.toInt = 1) := hp_7.2
        exact ok_r trivial
      · simp only [fa_lt, fa_le, fa_eq] at c_4
        refine ok_bd2 (m_B_X12_flag_0 N hN σ τ 1) (fun r_8 σ_8 τ_8 q_8 hp_8 => ?_)
        have f_8 := fr_B_X12_flag_0 N σ τ 1 q_8
        have g_8 : ((1 : Int32).toInt = 0 → r_8.toInt = 0) ∧ (¬ (1 : Int32).toInt = 0 → r_8.toInt = 1) := hp_8.2
        exact ok_r trivial
    · simp only [fa_lt, fa_le, fa_eq] at c_3
      refine ok_ite (fun c_5 => ?_) (fun c_5 => ?_)
      · simp only [fa_lt, fa_le, fa_eq] at c_5
        refine ok_ite (fun c_6 => ?_) (fun c_6 => ?_)
        · simp only [fa_lt, fa_le, fa_eq] at c_6
          refine ok_bd2 (m_B_X12_flag_0 N hN σ τ 1) (fun r_12 σ_12 τ_12 q_12 hp_12 => ?_)
          have f_12 := fr_B_X12_flag_0 N σ τ 1 q_12
          have g_12 : ((1 : Int32).toInt = 0 → r_12.toInt = 0) ∧ (¬ (1 : Int32).toInt = 0 → r_12.toInt = 1) := hp_12.2
          exact ok_r trivial
        · simp only [fa_lt, fa_le, fa_eq] at c_6
          refine ok_bd2 (m_B_X12_flag_0 N hN σ τ 0) (fun r_11 σ_11 τ_11 q_11 hp_11 => ?_)
          have f_11 := fr_B_X12_flag_0 N σ τ 0 q_11
          have g_11 : ((0 : Int32).toInt = 0 → r_11.toInt = 0) ∧ (¬ (0 : Int32).toInt = 0 → r_11.toInt = 1) := hp_11.2
          exact ok_r trivial
      · simp only [fa_lt, fa_le, fa_eq] at c_5
        refine ok_ite (fun c_7 => ?_) (fun c_7 => ?_)
        · simp only [fa_lt, fa_le, fa_eq] at c_7
          exact ok_r trivial
        · simp only [fa_lt, fa_le, fa_eq] at c_7
          refine ok_ite (fun c_8 => ?_) (fun c_8 => ?_)
          · simp only [fa_lt, fa_le, fa_eq] at c_8
            exact ok_r trivial
          · simp only [fa_lt, fa_le, fa_eq] at c_8
            refine ok_ite (fun c_9 => ?_) (fun c_9 => ?_)
            · simp only [fa_lt, fa_le, fa_eq] at c_9
              exact ok_r trivial
            · simp only [fa_lt, fa_le, fa_eq] at c_9
              refine ok_ite (fun c_10 => ?_) (fun c_10 => ?_)
              · simp only [fa_lt, fa_le, fa_eq] at c_10
                exact ok_r trivial
              · simp only [fa_lt, fa_le, fa_eq] at c_10
                refine ok_dz (fun h9 => by have h8 := (fa_eq _ _).mp h9; rw [show (0 : Int32).toInt = 0 from rfl] at h8; exact absurd h8 (by have : (0 : Int32).toInt = 0 := rfl; have : (1 : Int32).toInt = 1 := rfl; have : (2 : Int32).toInt = 2 := rfl; have : (3 : Int32).toInt = 3 := rfl; have : (4 : Int32).toInt = 4 := rfl; have : (5 : Int32).toInt = 5 := rfl; have := i32_rng x0; have := i32_rng x2; omega)) ?_
                exact ok_r trivial
set_option maxHeartbeats 2000000 in
theorem m_B_X12_flow_0 (N : Nat) (hN : 4294967296 ≤ N) (σ : gI) (τ : gJ) (x1 : Int32) (hS : SI σ) : okp (fun (a : Int32) σ1 τ1 => True) (B_X12_flow_0 N σ τ x1) := by
  unfold B_X12_flow_0
  refine ok_nm (fun σ_1 e_1 => ?_)
  have hS_1 : SI σ_1 := si_up hS e_1 (by omega)
  refine ok_bd2 (m_B_X12_in_0 N hN σ_1 τ x1.toInt64 0 9999) (fun r_2 σ_2 τ_2 q_2 hp_2 => ?_)
  have f_2 := fr_B_X12_in_0 N σ_1 τ x1.toInt64 0 9999 q_2
  have hS_2 : SI σ_2 := si_fr hS_1 (fun c k h => f_2.1 c k id)
  have g_2 : r_2.toInt = 0 ∨ (r_2.toInt = 1 ∧ 0 ≤ x1.toInt ∧ x1.toInt ≤ 9999) := (by have h := hp_2.2; simp only [Int32.toInt_toInt64, show (0 : Int64).toInt = 0 from rfl, show (9999 : Int64).toInt = 9999 from rfl] at h; exact h)
  refine ok_ite (fun c_1 => ?_) (fun c_1 => ?_)
  · simp only [fa_lt, fa_le, fa_eq] at c_1
    exact ok_r trivial
  · simp only [fa_lt, fa_le, fa_eq] at c_1
    refine ok_bd2 (m_B_X12_waterIn_0 N hN σ_2 τ_2 x1 hS_2 (by have : (0 : Int32).toInt = 0 := rfl; have := i32_rng r_2; have := i32_rng x1; have := hS_1.1.1; have := hS_2.1.1; have := hS.1.1; omega)) (fun r_4 σ_4 τ_4 q_4 hp_4 => ?_)
    have f_4 := fr_B_X12_waterIn_0 N σ_2 τ_2 x1 q_4
    have hS_4 : SI σ_4 := si_fr hS_2 (fun c k h => f_4.1 c k id)
    exact ok_r trivial
set_option maxHeartbeats 2000000 in
theorem m_B_X12_thinksNow_0 (N : Nat) (hN : 4294967296 ≤ N) (σ : gI) (τ : gJ) : okp (fun (a : Unit) σ1 τ1 => True) (B_X12_thinksNow_0 N σ τ) := by
  unfold B_X12_thinksNow_0
  refine ok_nm (fun σ_1 e_1 => ?_)
  refine ok_nm (fun σ_2 e_2 => ?_)
  exact ok_r trivial
set_option maxHeartbeats 2000000 in
theorem m_B_X12_gives_0 (N : Nat) (hN : 4294967296 ≤ N) (M4 N4 P4 : Int32) (σ : gI) (τ : gJ) (x1 : Int32) (x2 : Int32) (hR : RJ σ 206 M4 N4 P4) (hM : 0 ≤ M4.toInt ∧ M4.toInt ≤ 6) (hS : SI σ) : okp (fun (a : Int32) σ1 τ1 => RJ σ1 206 M4 N4 P4) (B_X12_gives_0 N σ τ x1 x2) := by
  unfold B_X12_gives_0
  refine ok_bd2 (m_B_X12_isThing_0 N hN M4 N4 P4 σ τ x1 hR hM) (fun r_1 σ_1 τ_1 q_1 hp_1 => ?_)
  have f_1 := fr_B_X12_isThing_0 N σ τ x1 q_1
  have hR_1 : RJ σ_1 206 M4 N4 P4 := rj_fr hR (fun c k h => f_1.1 c k id)
  have hS_1 : SI σ_1 := si_fr hS (fun c k h => f_1.1 c k id)
  have g_1 : r_1.toInt = 0 ∨ (r_1.toInt = 1 ∧ 0 ≤ x1.toInt ∧ x1.toInt < M4.toInt) := hp_1.2
  refine ok_ite (fun c_1 => ?_) (fun c_1 => ?_)
  · simp only [fa_lt, fa_le, fa_eq] at c_1
    exact ok_r hR_1
  · simp only [fa_lt, fa_le, fa_eq] at c_1
    refine ok_ck (by have : (0 : Int32).toInt = 0 := rfl; have : (4 : Int32).toInt = 4 := rfl; have : (7 : Int32).toInt = 7 := rfl; have : (45 : Int32).toInt = 45 := rfl; have := i32_rng r_1; have := i32_rng x1; have := ti_mul7 (x := x1) (by omega); have : ((7 * x1) + (4 : Int32)).toInt = (7 * x1).toInt + (4 : Int32).toInt := (ti_add (by omega) (by omega)); have := hS_1.1.1; have := hS.1.1; have q9 := ti_add (a := (7 * x1)) (b := (4 : Int32)) (by omega) (by omega); omega) (fun j_3 hj_3 lj_3 => ?_)
    refine ok_ite (fun c_2 => ?_) (fun c_2 => ?_)
    · simp only [fa_lt, fa_le, fa_eq] at c_2
      refine ok_bd2 (m_B_X12_in_0 N hN σ_1 τ_1 x2.toInt64 1 9) (fun r_5 σ_5 τ_5 q_5 hp_5 => ?_)
      have f_5 := fr_B_X12_in_0 N σ_1 τ_1 x2.toInt64 1 9 q_5
      have hR_5 : RJ σ_5 206 M4 N4 P4 := rj_fr hR_1 (fun c k h => f_5.1 c k id)
      have hS_5 : SI σ_5 := si_fr hS_1 (fun c k h => f_5.1 c k id)
      have g_5 : r_5.toInt = 0 ∨ (r_5.toInt = 1 ∧ 1 ≤ x2.toInt ∧ x2.toInt ≤ 9) := (by have h := hp_5.2; simp only [Int32.toInt_toInt64, show (1 : Int64).toInt = 1 from rfl, show (9 : Int64).toInt = 9 from rfl] at h; exact h)
      refine ok_ite (fun c_3 => ?_) (fun c_3 => ?_)
      · simp only [fa_lt, fa_le, fa_eq] at c_3
        exact ok_r hR_5
      · simp only [fa_lt, fa_le, fa_eq] at c_3
        refine ok_ck (by have : (0 : Int32).toInt = 0 := rfl; have : (2 : Int32).toInt = 2 := rfl; have : (7 : Int32).toInt = 7 := rfl; have : (45 : Int32).toInt = 45 := rfl; have : (206 : Int32).toInt = 206 := rfl; have := congrArg Int32.toInt (show σ_1 206 j_3 = σ 206 j_3 from f_1.1 206 j_3 id); have := i32_rng (σ_1 206 j_3); have := i32_rng (σ 206 j_3); have := i32_rng r_1; have := i32_rng r_5; have := i32_rng x1; have := i32_rng x2; have := ti_mul7 (x := x1) (by omega); have : ((7 * x1) + (2 : Int32)).toInt = (7 * x1).toInt + (2 : Int32).toInt := (ti_add (by omega) (by omega)); have := hS_1.1.1; have := hS_5.1.1; have := hS.1.1; have : (4 : Int32).toInt = 4 := rfl; have := ti_add (a := (7 * x1)) (b := (4 : Int32)) (by omega) (by omega); have q9 := ti_add (a := (7 * x1)) (b := (2 : Int32)) (by omega) (by omega); omega) (fun j_7 hj_7 lj_7 => ?_)
        refine ok_nm (fun σ_8 e_8 => ?_)
        have hR_8 : RJ σ_8 206 M4 N4 P4 := rj_upq hR_5 e_8 (by omega) (by omega) (by have : (0 : Int32).toInt = 0 := rfl; have : (42 : Int32).toInt = 42 := rfl; have : (206 : Int32).toInt = 206 := rfl; have := congrArg Int32.toInt (show σ_1 206 j_3 = σ 206 j_3 from f_1.1 206 j_3 id); have := i32_rng (σ_1 206 j_3); have := i32_rng (σ 206 j_3); have := i32_rng r_1; have := i32_rng r_5; have := i32_rng x1; have := i32_rng x2; have := ti_mul7 (x := x1) (by omega); have := hS_1.1.1; have := hS_5.1.1; have := hS.1.1; have : (4 : Int32).toInt = 4 := rfl; have := ti_add (a := (7 * x1)) (b := (4 : Int32)) (by omega) (by omega); have : (2 : Int32).toInt = 2 := rfl; have := ti_add (a := (7 * x1)) (b := (2 : Int32)) (by omega) (by omega); omega) (fun h9 => False.elim (by have : (0 : Int32).toInt = 0 := rfl; have : (206 : Int32).toInt = 206 := rfl; have := congrArg Int32.toInt (show σ_1 206 j_3 = σ 206 j_3 from f_1.1 206 j_3 id); have := i32_rng (σ_1 206 j_3); have := i32_rng (σ 206 j_3); have := i32_rng r_1; have := i32_rng r_5; have := i32_rng x1; have := i32_rng x2; have := ti_mul7 (x := x1) (by omega); have := hS_1.1.1; have := hS_5.1.1; have := hS.1.1; have : (4 : Int32).toInt = 4 := rfl; have := ti_add (a := (7 * x1)) (b := (4 : Int32)) (by omega) (by omega); have : (2 : Int32).toInt = 2 := rfl; have := ti_add (a := (7 * x1)) (b := (2 : Int32)) (by omega) (by omega); omega))
        have hS_8 : SI σ_8 := si_up hS_5 e_8 (by omega)
        exact ok_r hR_8
    · simp only [fa_lt, fa_le, fa_eq] at c_2
      exact ok_r hR_1
set_option maxHeartbeats 2000000 in
theorem m_B_X12_askedOf_0 (N : Nat) (hN : 4294967296 ≤ N) (q : Nat) (M4 N4 P4 : Int32) (σ : gI) (τ : gJ) (x2 : Int32) (x3 : Int32) (hR : RJ σ q M4 N4 P4) (hM : 0 ≤ M4.toInt ∧ M4.toInt ≤ 6) (hq : q = 206 ∨ q = 207 ∨ q = 224) (hS : SI σ) (h2 : 0 ≤ x2.toInt ∧ x2.toInt < M4.toInt) (hN4 : 0 ≤ N4.toInt) : okp (fun (a : Int32) σ1 τ1 => True) (B_X12_askedOf_0 N q σ τ x2 x3) := by
  unfold B_X12_askedOf_0
  refine ok_nm (fun v_1 e_1 => ?_)
  refine ok_ite (fun c_1 => ?_) (fun c_1 => ?_)
  · simp only [fa_lt, fa_le, fa_eq] at c_1
    refine ok_ck (by have : (0 : Int32).toInt = 0 := rfl; have : (7 : Int32).toInt = 7 := rfl; have : (45 : Int32).toInt = 45 := rfl; have := i32_rng v_1; have := i32_rng x2; have := i32_rng x3; have u_v_1 : v_1.toInt = 7 * x2.toInt := (by rw [e_1]; exact ti_mul7 (by omega)); have := ti_mul7 (x := x2) (by omega); have : (v_1 + (0 : Int32)).toInt = v_1.toInt + (0 : Int32).toInt := (ti_add (by omega) (by omega)); have := hS.1.1; have q9 := ti_add (a := v_1) (b := (0 : Int32)) (by omega) (by omega); omega) (fun j_3 hj_3 lj_3 => ?_)
    exact ok_r trivial
  · simp only [fa_lt, fa_le, fa_eq] at c_1
    refine ok_ite (fun c_2 => ?_) (fun c_2 => ?_)
    · simp only [fa_lt, fa_le, fa_eq] at c_2
      exact ok_r trivial
    · simp only [fa_lt, fa_le, fa_eq] at c_2
      refine ok_ite (fun c_3 => ?_) (fun c_3 => ?_)
      · simp only [fa_lt, fa_le, fa_eq] at c_3
        refine ok_bd2 (m_B_X12_waterIn_0 N hN σ τ (σ q 43) hS (by have : (0 : Int32).toInt = 0 := rfl; have : (1 : Int32).toInt = 1 := rfl; have : (2 : Int32).toInt = 2 := rfl; have : (43 : Int32).toInt = 43 := rfl; have := congrArg Int32.toInt hR.2.1; have := i32_rng (σ q 43); have := i32_rng x2; have := i32_rng x3; have := ti_mul7 (x := x2) (by omega); have := hS.1.1; omega)) (fun r_6 σ_6 τ_6 q_6 hp_6 => ?_)
        have f_6 := fr_B_X12_waterIn_0 N σ τ (σ q 43) q_6
        have hR_6 : RJ σ_6 q M4 N4 P4 := rj_fr hR (fun c k h => f_6.1 c k id)
        have hS_6 : SI σ_6 := si_fr hS (fun c k h => f_6.1 c k id)
        exact ok_r trivial
      · simp only [fa_lt, fa_le, fa_eq] at c_3
        refine ok_ite (fun c_4 => ?_) (fun c_4 => ?_)
        · simp only [fa_lt, fa_le, fa_eq] at c_4
          exact ok_r trivial
        · simp only [fa_lt, fa_le, fa_eq] at c_4
          refine ok_ite (fun c_5 => ?_) (fun c_5 => ?_)
          · simp only [fa_lt, fa_le, fa_eq] at c_5
            refine ok_ck (by have : (0 : Int32).toInt = 0 := rfl; have : (1 : Int32).toInt = 1 := rfl; have : (2 : Int32).toInt = 2 := rfl; have : (3 : Int32).toInt = 3 := rfl; have : (4 : Int32).toInt = 4 := rfl; have : (7 : Int32).toInt = 7 := rfl; have : (45 : Int32).toInt = 45 := rfl; have := i32_rng v_1; have := i32_rng x2; have := i32_rng x3; have u_v_1 : v_1.toInt = 7 * x2.toInt := (by rw [e_1]; exact ti_mul7 (by omega)); have := ti_mul7 (x := x2) (by omega); have : (v_1 + (1 : Int32)).toInt = v_1.toInt + (1 : Int32).toInt := (ti_add (by omega) (by omega)); have := hS.1.1; have q9 := ti_add (a := v_1) (b := (1 : Int32)) (by omega) (by omega); omega) (fun j_9 hj_9 lj_9 => ?_)
            exact ok_r trivial
          · simp only [fa_lt, fa_le, fa_eq] at c_5
            refine ok_ite (fun c_6 => ?_) (fun c_6 => ?_)
            · simp only [fa_lt, fa_le, fa_eq] at c_6
              refine ok_ck (by have : (0 : Int32).toInt = 0 := rfl; have : (1 : Int32).toInt = 1 := rfl; have : (2 : Int32).toInt = 2 := rfl; have : (3 : Int32).toInt = 3 := rfl; have : (4 : Int32).toInt = 4 := rfl; have : (5 : Int32).toInt = 5 := rfl; have : (7 : Int32).toInt = 7 := rfl; have : (45 : Int32).toInt = 45 := rfl; have := i32_rng v_1; have := i32_rng x2; have := i32_rng x3; have u_v_1 : v_1.toInt = 7 * x2.toInt := (by rw [e_1]; exact ti_mul7 (by omega)); have := ti_mul7 (x := x2) (by omega); have : (v_1 + (2 : Int32)).toInt = v_1.toInt + (2 : Int32).toInt := (ti_add (by omega) (by omega)); have := hS.1.1; have q9 := ti_add (a := v_1) (b := (2 : Int32)) (by omega) (by omega); omega) (fun j_11 hj_11 lj_11 => ?_)
              exact ok_r trivial
            · simp only [fa_lt, fa_le, fa_eq] at c_6
              refine ok_ite (fun c_7 => ?_) (fun c_7 => ?_)
              · simp only [fa_lt, fa_le, fa_eq] at c_7
                refine ok_bd2 (m_B_X12_othersAt_0 N hN q M4 N4 P4 σ τ x2 hR hM hq h2) (fun r_13 σ_13 τ_13 q_13 hp_13 => ?_)
                have f_13 := fr_B_X12_othersAt_0 N q σ τ x2 q_13
                have hR_13 : RJ σ_13 q M4 N4 P4 := rj_fr hR (fun c k h => f_13.1 c k id)
                have hS_13 : SI σ_13 := si_fr hS (fun c k h => f_13.1 c k id)
                exact ok_r trivial
              · simp only [fa_lt, fa_le, fa_eq] at c_7
                refine ok_ck (by have : (0 : Int32).toInt = 0 := rfl; have : (1 : Int32).toInt = 1 := rfl; have : (2 : Int32).toInt = 2 := rfl; have : (3 : Int32).toInt = 3 := rfl; have : (4 : Int32).toInt = 4 := rfl; have : (5 : Int32).toInt = 5 := rfl; have : (6 : Int32).toInt = 6 := rfl; have : (7 : Int32).toInt = 7 := rfl; have : (45 : Int32).toInt = 45 := rfl; have := i32_rng v_1; have := i32_rng x2; have := i32_rng x3; have u_v_1 : v_1.toInt = 7 * x2.toInt := (by rw [e_1]; exact ti_mul7 (by omega)); have := ti_mul7 (x := x2) (by omega); have : (v_1 + (0 : Int32)).toInt = v_1.toInt + (0 : Int32).toInt := (ti_add (by omega) (by omega)); have := hS.1.1; have q9 := ti_add (a := v_1) (b := (0 : Int32)) (by omega) (by omega); omega) (fun j_14 hj_14 lj_14 => ?_)
                exact ok_r trivial
