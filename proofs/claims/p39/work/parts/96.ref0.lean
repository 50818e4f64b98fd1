theorem m_B_X12_in_0 (N : Nat) (hN : 4294967296 ≤ N) (σ : gI) (τ : gJ) (x0 x2 x4 : Int64) : okp (fun (a : Int32) σ1 τ1 => (a = 0 ∨ a = 1) ∧ (a.toInt = 0 ∨ (a.toInt = 1 ∧ x2.toInt ≤ x0.toInt ∧ x0.toInt ≤ x4.toInt))) (B_X12_in_0 N σ τ x0 x2 x4) := by
  unfold B_X12_in_0
  refine ok_ite (fun c1 => ok_r ⟨Or.inl rfl, Or.inl rfl⟩) (fun c1 => ok_ite (fun c2 => ok_r ⟨Or.inl rfl, Or.inl rfl⟩) (fun c2 => ok_r ⟨Or.inr rfl, Or.inr ⟨rfl, ?_, ?_⟩⟩))
  · exact Int.not_lt.mp (fun q => c1 ((gx_cl x0 x2).mpr q))
  · exact Int.not_lt.mp (fun q => c2 ((gx_cg x0 x4).mpr q))
set_option maxHeartbeats 2000000 in
theorem m_B_X12_flag_0 (N : Nat) (hN : 4294967296 ≤ N) (σ : gI) (τ : gJ) (x0 : Int32) : okp (fun (a : Int32) σ1 τ1 => (a = 0 ∨ a = 1) ∧ (x0.toInt = 0 → a.toInt = 0) ∧ (¬ x0.toInt = 0 → a.toInt = 1)) (B_X12_flag_0 N σ τ x0) := by
  unfold B_X12_flag_0
  refine ok_ite (fun c_1 => ?_) (fun c_1 => ?_)
  · simp only [fa_lt, fa_le, fa_eq] at c_1
    exact ok_r ⟨(Or.inl rfl), (by have : (0 : Int32).toInt = 0 := rfl; have : (1 : Int32).toInt = 1 := rfl; have := i32_rng x0; omega)⟩
  · simp only [fa_lt, fa_le, fa_eq] at c_1
    exact ok_r ⟨(Or.inr rfl), (by have : (0 : Int32).toInt = 0 := rfl; have : (1 : Int32).toInt = 1 := rfl; have := i32_rng x0; omega)⟩
set_option maxHeartbeats 2000000 in
theorem m_B_X12_has_0 (N : Nat) (hN : 4294967296 ≤ N) (σ : gI) (τ : gJ) (x0 : Int32) (x1 : Int32) : okp (fun (a : Int32) σ1 τ1 => a = 0 ∨ a = 1) (B_X12_has_0 N σ τ x0 x1) := by
  unfold B_X12_has_0
  refine ok_ite (fun c_1 => ?_) (fun c_1 => ?_)
  · simp only [fa_lt, fa_le, fa_eq] at c_1
    exact ok_r (Or.inr rfl)
  · simp only [fa_lt, fa_le, fa_eq] at c_1
    exact ok_r (Or.inl rfl)
set_option maxHeartbeats 2000000 in
theorem m_B_X12_refuse_0 (N : Nat) (hN : 4294967296 ≤ N) (σ : gI) (τ : gJ) : okp (fun (a : Int32) σ1 τ1 => True) (B_X12_refuse_0 N σ τ) := by
  unfold B_X12_refuse_0
  refine ok_nm (fun σ_1 e_1 => ?_)
  exact ok_r trivial
theorem m_B_X12_isPlace_0 (N : Nat) (hN : 4294967296 ≤ N) (σ : gI) (τ : gJ) (x1 : Int32) (hS : SI σ) : okp (fun (a : Int32) σ1 τ1 => (a = 0 ∨ a = 1) ∧ (a.toInt = 0 ∨ (a.toInt = 1 ∧ 0 ≤ x1.toInt ∧ x1.toInt < (σ 199 3).toInt))) (B_X12_isPlace_0 N σ τ x1) := by
  unfold B_X12_isPlace_0
  refine ok_bd (m_B_X12_in_0 N hN σ τ _ _ _) (fun r σ1 τ1 hp => ok_cb hp.1 (ok_r ⟨hp.1, ?_⟩))
  have h1 := hS.1.1
  have h2 := hp.2
  have e0 : (0 : Int64).toInt = 0 := rfl
  have e1 : (1 : Int32).toInt = 1 := rfl
  rw [Int32.toInt_toInt64, Int32.toInt_toInt64, ti_sub (by rw [e1]; omega) (by rw [e1]; omega), e0, e1] at h2
  omega
set_option maxHeartbeats 2000000 in
theorem m_B_X12_isKitchen_0 (N : Nat) (hN : 4294967296 ≤ N) (σ : gI) (τ : gJ) (x1 : Int32) (hS : SI σ) : okp (fun (a : Int32) σ1 τ1 => a = 0 ∨ a = 1) (B_X12_isKitchen_0 N σ τ x1) := by
  unfold B_X12_isKitchen_0
  refine ok_bd2 (m_B_X12_isPlace_0 N hN σ τ x1 hS) (fun r_1 σ_1 τ_1 q_1 hp_1 => ?_)
  have f_1 := fr_B_X12_isPlace_0 N σ τ x1 q_1
  have hS_1 : SI σ_1 := si_fr hS (fun c k h => f_1.1 c k id)
  have g_1 : r_1.toInt = 0 ∨ (r_1.toInt = 1 ∧ 0 ≤ x1.toInt ∧ x1.toInt < (σ 199 3).toInt) := hp_1.2
  refine ok_ite (fun c_1 => ?_) (fun c_1 => ?_)
  · simp only [fa_lt, fa_le, fa_eq] at c_1
    exact ok_r (Or.inl rfl)
  · simp only [fa_lt, fa_le, fa_eq] at c_1
    refine ok_ck (by have : (0 : Int32).toInt = 0 := rfl; have : (12 : Int32).toInt = 12 := rfl; have := i32_rng (σ 199 3); have := i32_rng r_1; have := i32_rng x1; have := hS_1.1.1; have := hS.1.1; omega) (fun j_3 hj_3 lj_3 => ?_)
    refine ok_ite (fun c_2 => ?_) (fun c_2 => ?_)
    · simp only [fa_lt, fa_le, fa_eq] at c_2
      exact ok_r (Or.inr rfl)
    · simp only [fa_lt, fa_le, fa_eq] at c_2
      exact ok_r (Or.inl rfl)
set_option maxHeartbeats 2000000 in
theorem m_B_X12_isFork_0 (N : Nat) (hN : 4294967296 ≤ N) (σ : gI) (τ : gJ) (x1 : Int32) (hS : SI σ) : okp (fun (a : Int32) σ1 τ1 => a = 0 ∨ a = 1) (B_X12_isFork_0 N σ τ x1) := by
  unfold B_X12_isFork_0
  refine ok_bd2 (m_B_X12_isPlace_0 N hN σ τ x1 hS) (fun r_1 σ_1 τ_1 q_1 hp_1 => ?_)
  have f_1 := fr_B_X12_isPlace_0 N σ τ x1 q_1
  have hS_1 : SI σ_1 := si_fr hS (fun c k h => f_1.1 c k id)
  have g_1 : r_1.toInt = 0 ∨ (r_1.toInt = 1 ∧ 0 ≤ x1.toInt ∧ x1.toInt < (σ 199 3).toInt) := hp_1.2
  refine ok_ite (fun c_1 => ?_) (fun c_1 => ?_)
  · simp only [fa_lt, fa_le, fa_eq] at c_1
    exact ok_r (Or.inl rfl)
  · simp only [fa_lt, fa_le, fa_eq] at c_1
    refine ok_ck (by have : (0 : Int32).toInt = 0 := rfl; have : (12 : Int32).toInt = 12 := rfl; have := i32_rng (σ 199 3); have := i32_rng r_1; have := i32_rng x1; have := hS_1.1.1; have := hS.1.1; omega) (fun j_3 hj_3 lj_3 => ?_)
    refine ok_ite (fun c_2 => ?_) (fun c_2 => ?_)
    · simp only [fa_lt, fa_le, fa_eq] at c_2
      exact ok_r (Or.inr rfl)
    · simp only [fa_lt, fa_le, fa_eq] at c_2
      exact ok_r (Or.inl rfl)
set_option maxHeartbeats 2000000 in
theorem m_B_X12_enters_0 (N : Nat) (hN : 4294967296 ≤ N) (σ : gI) (τ : gJ) (x1 : Int64) (h1 : 0 ≤ (σ 199 1).toInt ∧ (σ 199 1).toInt < 16) : okp (fun (a : Unit) σ1 τ1 => (σ1 199 1).toInt = (σ 199 1).toInt + 1) (B_X12_enters_0 N σ τ x1) := by
  unfold B_X12_enters_0
  refine ok_ck (by have : (0 : Int32).toInt = 0 := rfl; have : (1 : Int32).toInt = 1 := rfl; have : (16 : Int32).toInt = 16 := rfl; have : (199 : Int32).toInt = 199 := rfl; have := i32_rng (σ 199 1); omega) (fun j_1 hj_1 lj_1 => ?_)
  refine ok_nm (fun τ_2 e_2 => ?_)
  refine ok_nm (fun σ_3 e_3 => ?_)
  exact ok_r (by have : (1 : Int32).toInt = 1 := rfl; have : (199 : Int32).toInt = 199 := rfl; have := i32_rng (σ 199 1); have := congrArg Int32.toInt (show σ_3 199 1 = ((σ 199 1) + 1) from (by rw [e_3]; unfold up2; rw [if_pos ⟨rfl, rfl⟩])); have := i32_rng (σ_3 199 1); have q_1 : ((σ 199 1) + 1).toInt = _ := ti_add (a := (σ 199 1)) (b := (1 : Int32)) (by omega) (by omega); omega)
set_option maxHeartbeats 2000000 in
theorem m_B_X12_takes_29 (N : Nat) (hN : 4294967296 ≤ N) (σ : gI) (τ : gJ) (y0 : Int32) (ha : 0 ≤ (σ 199 14).toInt ∧ (σ 199 14).toInt ≤ 80 ∧ (σ 199 15).toInt ≤ 80) (hb : y0 = 0 ∨ y0 = 1) (hy : y0.toInt = 0 ∨ (y0.toInt = 1 ∧ (σ 199 14).toInt < (σ 199 15).toInt)) : okp (fun (a : Int32) σ1 τ1 => (a = 0 ∨ a = 1) ∧ (a.toInt = 0 ∨ (a.toInt = 1 ∧ (σ 199 14).toInt < (σ 199 15).toInt)) ∧ (σ1 199 14).toInt = (σ 199 14).toInt + a.toInt) (B_X12_takes_29 N σ τ y0) := by
  unfold B_X12_takes_29
  refine ok_bd2 (m_B_X12_flag_0 N hN σ τ y0) (fun r_1 σ_1 τ_1 q_1 hp_1 => ?_)
  have f_1 := fr_B_X12_flag_0 N σ τ y0 q_1
  have g_1 : (y0.toInt = 0 → r_1.toInt = 0) ∧ (¬ y0.toInt = 0 → r_1.toInt = 1) := hp_1.2
  refine ok_nm (fun σ_2 e_2 => ?_)
  have b_1 : y0 = 0 ∨ y0 = 1 := hb
  refine ok_cb b_1 ?_
  exact ok_r ⟨b_1, (by have : (0 : Int32).toInt = 0 := rfl; have : (1 : Int32).toInt = 1 := rfl; have : (14 : Int32).toInt = 14 := rfl; have : (15 : Int32).toInt = 15 := rfl; have : (199 : Int32).toInt = 199 := rfl; have := i32_rng (σ 199 14); have := i32_rng (σ 199 15); have := congrArg Int32.toInt (show σ_2 199 14 = ((σ 199 14) + r_1) from (by rw [e_2]; unfold up2; rw [if_pos ⟨rfl, rfl⟩])); have := i32_rng (σ_2 199 14); have := i32_rng r_1; have := i32_rng y0; have q_1 : ((σ 199 14) + r_1).toInt = _ := ti_add (a := (σ 199 14)) (b := r_1) (by omega) (by omega); omega)⟩
set_option maxHeartbeats 2000000 in
theorem m_B_X12_takes_0 (N : Nat) (hN : 4294967296 ≤ N) (σ : gI) (τ : gJ) (x1 : Int32) (ha : 0 ≤ (σ 199 14).toInt ∧ (σ 199 14).toInt ≤ 80 ∧ (σ 199 15).toInt ≤ 80) : okp (fun (a : Int32) σ1 τ1 => (a = 0 ∨ a = 1) ∧ (a.toInt = 0 ∨ (a.toInt = 1 ∧ (σ 199 14).toInt < (σ 199 15).toInt)) ∧ (σ1 199 14).toInt = (σ 199 14).toInt + a.toInt) (B_X12_takes_0 N σ τ x1) := by
  unfold B_X12_takes_0
  refine ok_ite (fun c_1 => ?_) (fun c_1 => ?_)
  · simp only [fa_lt, fa_le, fa_eq] at c_1
    exact m_B_X12_takes_29 N hN σ τ 0 ha (Or.inl rfl) (by have : (0 : Int32).toInt = 0 := rfl; have : (1 : Int32).toInt = 1 := rfl; have : (14 : Int32).toInt = 14 := rfl; have : (15 : Int32).toInt = 15 := rfl; have : (199 : Int32).toInt = 199 := rfl; have := i32_rng (σ 199 14); have := i32_rng (σ 199 15); omega)
  · simp only [fa_lt, fa_le, fa_eq] at c_1
    refine ok_ck (by have : (0 : Int32).toInt = 0 := rfl; have : (14 : Int32).toInt = 14 := rfl; have : (15 : Int32).toInt = 15 := rfl; have : (80 : Int32).toInt = 80 := rfl; have : (199 : Int32).toInt = 199 := rfl; have := i32_rng (σ 199 14); have := i32_rng (σ 199 15); omega) (fun j_2 hj_2 lj_2 => ?_)
    refine ok_ite (fun c_2 => ?_) (fun c_2 => ?_)
    · simp only [fa_lt, fa_le, fa_eq] at c_2
      exact m_B_X12_takes_29 N hN σ τ 1 ha (Or.inr rfl) (by have : (0 : Int32).toInt = 0 := rfl; have : (1 : Int32).toInt = 1 := rfl; have : (14 : Int32).toInt = 14 := rfl; have : (15 : Int32).toInt = 15 := rfl; have : (199 : Int32).toInt = 199 := rfl; have : (208 : Int32).toInt = 208 := rfl; have := i32_rng (σ 199 14); have := i32_rng (σ 199 15); have := i32_rng (σ 208 j_2); have := i32_rng x1; omega)
    · simp only [fa_lt, fa_le, fa_eq] at c_2
      exact m_B_X12_takes_29 N hN σ τ 0 ha (Or.inl rfl) (by have : (0 : Int32).toInt = 0 := rfl; have : (1 : Int32).toInt = 1 := rfl; have : (14 : Int32).toInt = 14 := rfl; have : (15 : Int32).toInt = 15 := rfl; have : (199 : Int32).toInt = 199 := rfl; have : (208 : Int32).toInt = 208 := rfl; have := i32_rng (σ 199 14); have := i32_rng (σ 199 15); have := i32_rng (σ 208 j_2); have := i32_rng x1; omega)
set_option maxHeartbeats 2000000 in
theorem m_B_X12_isDigit_0 (N : Nat) (hN : 4294967296 ≤ N) (σ : gI) (τ : gJ) (ha : 0 ≤ (σ 199 14).toInt ∧ (σ 199 14).toInt ≤ 80 ∧ (σ 199 15).toInt ≤ 80) : okp (fun (a : Int32) σ1 τ1 => (a = 0 ∨ a = 1) ∧ (a.toInt = 0 ∨ (σ 199 14).toInt < (σ 199 15).toInt)) (B_X12_isDigit_0 N σ τ) := by
  unfold B_X12_isDigit_0
  refine ok_ite (fun c_1 => ?_) (fun c_1 => ?_)
  · simp only [fa_lt, fa_le, fa_eq] at c_1
    exact ok_r ⟨(Or.inl rfl), (by have : (0 : Int32).toInt = 0 := rfl; have : (14 : Int32).toInt = 14 := rfl; have : (15 : Int32).toInt = 15 := rfl; have : (199 : Int32).toInt = 199 := rfl; have := i32_rng (σ 199 14); have := i32_rng (σ 199 15); omega)⟩
  · simp only [fa_lt, fa_le, fa_eq] at c_1
    refine ok_ck (by have : (0 : Int32).toInt = 0 := rfl; have : (14 : Int32).toInt = 14 := rfl; have : (15 : Int32).toInt = 15 := rfl; have : (80 : Int32).toInt = 80 := rfl; have : (199 : Int32).toInt = 199 := rfl; have := i32_rng (σ 199 14); have := i32_rng (σ 199 15); omega) (fun j_2 hj_2 lj_2 => ?_)
    refine ok_bd2 (m_B_X12_in_0 N hN σ τ ((σ 208 j_2).toInt64) 48 57) (fun r_3 σ_3 τ_3 q_3 hp_3 => ?_)
    have f_3 := fr_B_X12_in_0 N σ τ ((σ 208 j_2).toInt64) 48 57 q_3
    refine ok_ite (fun c_2 => ?_) (fun c_2 => ?_)
    · simp only [fa_lt, fa_le, fa_eq] at c_2
      exact ok_r ⟨(Or.inl rfl), (by have : (0 : Int32).toInt = 0 := rfl; have : (14 : Int32).toInt = 14 := rfl; have : (15 : Int32).toInt = 15 := rfl; have : (199 : Int32).toInt = 199 := rfl; have := i32_rng (σ 199 14); have := i32_rng (σ 199 15); have := i32_rng r_3; omega)⟩
    · simp only [fa_lt, fa_le, fa_eq] at c_2
      exact ok_r ⟨(Or.inr rfl), (by have : (0 : Int32).toInt = 0 := rfl; have : (1 : Int32).toInt = 1 := rfl; have : (14 : Int32).toInt = 14 := rfl; have : (15 : Int32).toInt = 15 := rfl; have : (199 : Int32).toInt = 199 := rfl; have := i32_rng (σ 199 14); have := i32_rng (σ 199 15); have := i32_rng r_3; omega)⟩
set_option maxHeartbeats 2000000 in
theorem m_B_X12_faultOf_20 (N : Nat) (hN : 4294967296 ≤ N) (σ : gI) (τ : gJ) (x1 : Int32) (x2 : Int32) (y0 : Int32) : okp (fun (a : Int32) σ1 τ1 => True) (B_X12_faultOf_20 N σ τ x1 x2 y0) := by
  unfold B_X12_faultOf_20
  refine ok_ite (fun c_1 => ?_) (fun c_1 => ?_)
  · simp only [fa_lt, fa_le, fa_eq] at c_1
    refine ok_ite (fun c_2 => ?_) (fun c_2 => ?_)
    · simp only [fa_lt, fa_le, fa_eq] at c_2
      exact ok_r trivial
    · simp only [fa_lt, fa_le, fa_eq] at c_2
      exact ok_r trivial
  · simp only [fa_lt, fa_le, fa_eq] at c_1
    refine ok_ite (fun c_3 => ?_) (fun c_3 => ?_)
    · simp only [fa_lt, fa_le, fa_eq] at c_3
      refine ok_ite (fun c_4 => ?_) (fun c_4 => ?_)
      · simp only [fa_lt, fa_le, fa_eq] at c_4
        refine ok_ite (fun c_5 => ?_) (fun c_5 => ?_)
        · simp only [fa_lt, fa_le, fa_eq] at c_5
          exact ok_r trivial
        · simp only [fa_lt, fa_le, fa_eq] at c_5
          exact ok_r trivial
      · simp only [fa_lt, fa_le, fa_eq] at c_4
        exact ok_r trivial
    · simp only [fa_lt, fa_le, fa_eq] at c_3
      exact ok_r trivial
set_option maxHeartbeats 2000000 in
theorem m_B_X12_faultOf_0 (N : Nat) (hN : 4294967296 ≤ N) (σ : gI) (τ : gJ) (x1 : Int32) (x2 : Int32) (x3 : Int32) : okp (fun (a : Int32) σ1 τ1 => True) (B_X12_faultOf_0 N σ τ x1 x2 x3) := by
  unfold B_X12_faultOf_0
  refine ok_ite (fun c_1 => ?_) (fun c_1 => ?_)
  · simp only [fa_lt, fa_le, fa_eq] at c_1
    exact m_B_X12_faultOf_20 N hN σ τ x1 x2 0
  · simp only [fa_lt, fa_le, fa_eq] at c_1
    refine ok_ite (fun c_2 => ?_) (fun c_2 => ?_)
    · simp only [fa_lt, fa_le, fa_eq] at c_2
      exact m_B_X12_faultOf_20 N hN σ τ x1 x2 1
    · simp only [fa_lt, fa_le, fa_eq] at c_2
      exact m_B_X12_faultOf_20 N hN σ τ x1 x2 0
set_option maxHeartbeats 2000000 in
theorem m_B_X12_begins_0 (N : Nat) (hN : 4294967296 ≤ N) (σ : gI) (τ : gJ) (x1 : Int32) (ht : 0 ≤ (σ 199 13).toInt ∧ (σ 199 13).toInt ≤ 80) : okp (fun (a : Int32) σ1 τ1 => a = σ 199 13 ∧ (σ1 199 14).toInt = 0 ∧ (σ1 199 13).toInt = 0 ∧ (σ1 199 16).toInt = 0 ∧ (σ1 199 15).toInt ≤ 80) (B_X12_begins_0 N σ τ x1) := by
  unfold B_X12_begins_0
  refine ok_nm (fun v_1 e_1 => ?_)
  refine ok_nm (fun σ_2 e_2 => ?_)
  refine ok_nm (fun σ_3 e_3 => ?_)
  refine ok_nm (fun σ_4 e_4 => ?_)
  refine ok_nm (fun σ_5 e_5 => ?_)
  exact ok_r ⟨e_1, (by have : (0 : Int32).toInt = 0 := rfl; have : (14 : Int32).toInt = 14 := rfl; have : (199 : Int32).toInt = 199 := rfl; have := i32_rng (σ 199 13); have := congrArg Int32.toInt (show σ_5 199 14 = σ_4 199 14 from (by rw [e_5]; exact up2_ne (by omega))); have := congrArg Int32.toInt (show σ_4 199 14 = σ_3 199 14 from (by rw [e_4]; exact up2_ne (by omega))); have := congrArg Int32.toInt (show σ_3 199 14 = 0 from (by rw [e_3]; unfold up2; rw [if_pos ⟨rfl, rfl⟩])); have := i32_rng (σ_5 199 14); have := congrArg Int32.toInt (show σ_3 199 14 = 0 from (by rw [e_3]; unfold up2; rw [if_pos ⟨rfl, rfl⟩])); have := i32_rng (σ_3 199 14); have := congrArg Int32.toInt (show σ_4 199 14 = σ_3 199 14 from (by rw [e_4]; exact up2_ne (by omega))); have := congrArg Int32.toInt (show σ_3 199 14 = 0 from (by rw [e_3]; unfold up2; rw [if_pos ⟨rfl, rfl⟩])); have := i32_rng (σ_4 199 14); omega), (by have : (0 : Int32).toInt = 0 := rfl; have : (13 : Int32).toInt = 13 := rfl; have : (199 : Int32).toInt = 199 := rfl; have := i32_rng (σ 199 13); have := congrArg Int32.toInt (show σ_5 199 13 = σ_4 199 13 from (by rw [e_5]; exact up2_ne (by omega))); have := congrArg Int32.toInt (show σ_4 199 13 = σ_3 199 13 from (by rw [e_4]; exact up2_ne (by omega))); have := congrArg Int32.toInt (show σ_3 199 13 = σ_2 199 13 from (by rw [e_3]; exact up2_ne (by omega))); have := congrArg Int32.toInt (show σ_2 199 13 = 0 from (by rw [e_2]; unfold up2; rw [if_pos ⟨rfl, rfl⟩])); have := i32_rng (σ_5 199 13); have := congrArg Int32.toInt (show σ_2 199 13 = 0 from (by rw [e_2]; unfold up2; rw [if_pos ⟨rfl, rfl⟩])); have := i32_rng (σ_2 199 13); have := congrArg Int32.toInt (show σ_3 199 13 = σ_2 199 13 from (by rw [e_3]; exact up2_ne (by omega))); have := congrArg Int32.toInt (show σ_2 199 13 = 0 from (by rw [e_2]; unfold up2; rw [if_pos ⟨rfl, rfl⟩])); have := i32_rng (σ_3 199 13); have := congrArg Int32.toInt (show σ_4 199 13 = σ_3 199 13 from (by rw [e_4]; exact up2_ne (by omega))); have := congrArg Int32.toInt (show σ_3 199 13 = σ_2 199 13 from (by rw [e_3]; exact up2_ne (by omega))); have := congrArg Int32.toInt (show σ_2 199 13 = 0 from (by rw [e_2]; unfold up2; rw [if_pos ⟨rfl, rfl⟩])); have := i32_rng (σ_4 199 13); omega), (by have : (0 : Int32).toInt = 0 := rfl; have : (16 : Int32).toInt = 16 := rfl; have : (199 : Int32).toInt = 199 := rfl; have := i32_rng (σ 199 13); have := congrArg Int32.toInt (show σ_5 199 16 = σ_4 199 16 from (by rw [e_5]; exact up2_ne (by omega))); have := congrArg Int32.toInt (show σ_4 199 16 = 0 from (by rw [e_4]; unfold up2; rw [if_pos ⟨rfl, rfl⟩])); have := i32_rng (σ_5 199 16); have := congrArg Int32.toInt (show σ_4 199 16 = 0 from (by rw [e_4]; unfold up2; rw [if_pos ⟨rfl, rfl⟩])); have := i32_rng (σ_4 199 16); omega), (by have : (13 : Int32).toInt = 13 := rfl; have : (15 : Int32).toInt = 15 := rfl; have : (80 : Int32).toInt = 80 := rfl; have : (199 : Int32).toInt = 199 := rfl; have := imin_c v_1 x1; have := i32_rng (σ 199 13); have := congrArg Int32.toInt (show σ_5 199 15 = (imin v_1 x1) from (by rw [e_5]; unfold up2; rw [if_pos ⟨rfl, rfl⟩])); have := i32_rng (σ_5 199 15); have := i32_rng v_1; have := i32_rng x1; have u_v_1 : v_1.toInt = (σ 199 13).toInt := (by rw [e_1]); omega)⟩
set_option maxHeartbeats 2000000 in
theorem m_C_X12_sign_18 (N : Nat) (hN : 4294967296 ≤ N) (rec_18 : gI → gJ → Int32 → Int32 → Option (Int32 × gI × gJ)) (n_18 : Nat) (hrec_18 : ∀ (σ : gI) (τ : gJ) (x1 : Int32) (x2 : Int32), (0 ≤ (σ 199 13).toInt ∧ (σ 199 13).toInt ≤ 80) → (0 ≤ x2.toInt) → ((σ 199 13).toInt ≤ 76) → (2147483647 - x2.toInt).toNat < n_18 → okp (fun (a : Int32) σ1 τ1 => 0 ≤ (σ1 199 13).toInt ∧ (σ1 199 13).toInt ≤ 80) (rec_18 σ τ x1 x2)) (σ : gI) (τ : gJ) (x1 : Int32) (x2 : Int32) (ht : 0 ≤ (σ 199 13).toInt ∧ (σ 199 13).toInt ≤ 80) (h0_18 : 0 ≤ x2.toInt) (hm_18 : (2147483647 - x2.toInt).toNat < n_18 + 1) (ht2 : (σ 199 13).toInt ≤ 76) : okp (fun (a : Int32) σ1 τ1 => 0 ≤ (σ1 199 13).toInt ∧ (σ1 199 13).toInt ≤ 80) (C_X12_sign_18 N rec_18 σ τ x1 x2) := by
  unfold C_X12_sign_18
  refine ok_ite (fun c_1 => ?_) (fun c_1 => ?_)
  · simp only [fa_lt, fa_le, fa_eq] at c_1
    refine ok_nm (fun σ_2 e_2 => ?_)
    exact ok_r (by have : (0 : Int32).toInt = 0 := rfl; have : (4 : Int32).toInt = 4 := rfl; have : (13 : Int32).toInt = 13 := rfl; have : (80 : Int32).toInt = 80 := rfl; have : (199 : Int32).toInt = 199 := rfl; have := i32_rng (σ 199 13); have := congrArg Int32.toInt (show σ_2 199 13 = ((σ 199 13) + 4) from (by rw [e_2]; unfold up2; rw [if_pos ⟨rfl, rfl⟩])); have := i32_rng (σ_2 199 13); have := i32_rng x2; have q_1 : ((σ 199 13) + 4).toInt = _ := ti_add (a := (σ 199 13)) (b := (4 : Int32)) (by omega) (by omega); omega)
  · simp only [fa_lt, fa_le, fa_eq] at c_1
    refine ok_ck (by have : (0 : Int32).toInt = 0 := rfl; have : (4 : Int32).toInt = 4 := rfl; have : (13 : Int32).toInt = 13 := rfl; have : (80 : Int32).toInt = 80 := rfl; have : (199 : Int32).toInt = 199 := rfl; have := i32_rng (σ 199 13); have := i32_rng x2; have : ((σ 199 13) + x2).toInt = (σ 199 13).toInt + x2.toInt := (ti_add (by omega) (by omega)); have q9 := ti_add (a := (σ 199 13)) (b := x2) (by omega) (by omega); omega) (fun j_3 hj_3 lj_3 => ?_)
    refine ok_nm (fun σ_4 e_4 => ?_)
    refine ok_nm (fun v_5 e_5 => ?_)
    exact hrec_18 σ_4 τ x1 v_5 (by have : (0 : Int32).toInt = 0 := rfl; have : (4 : Int32).toInt = 4 := rfl; have : (13 : Int32).toInt = 13 := rfl; have : (80 : Int32).toInt = 80 := rfl; have : (199 : Int32).toInt = 199 := rfl; have := i32_rng (σ 199 13); have := congrArg Int32.toInt (show σ_4 199 13 = σ 199 13 from (by rw [e_4]; exact up2_ne (by omega))); have := i32_rng (σ_4 199 13); have := i32_rng x2; have := ti_add (a := (σ 199 13)) (b := x2) (by omega) (by omega); omega) (by have : (0 : Int32).toInt = 0 := rfl; have : (1 : Int32).toInt = 1 := rfl; have : (4 : Int32).toInt = 4 := rfl; have := i32_rng (σ 199 13); have := i32_rng v_5; have := i32_rng x2; have u_v_5 : v_5.toInt = (x2).toInt + 1 := (by rw [e_5]; have q := ti_add (a := x2) (b := 1) (by rw [show (1 : Int32).toInt = 1 from rfl]; omega) (by rw [show (1 : Int32).toInt = 1 from rfl]; omega); rw [q, show (1 : Int32).toInt = 1 from rfl]); have := ti_add (a := (σ 199 13)) (b := x2) (by omega) (by omega); omega) (by have : (4 : Int32).toInt = 4 := rfl; have : (13 : Int32).toInt = 13 := rfl; have : (76 : Int32).toInt = 76 := rfl; have : (199 : Int32).toInt = 199 := rfl; have := i32_rng (σ 199 13); have := congrArg Int32.toInt (show σ_4 199 13 = σ 199 13 from (by rw [e_4]; exact up2_ne (by omega))); have := i32_rng (σ_4 199 13); have := i32_rng x2; have := ti_add (a := (σ 199 13)) (b := x2) (by omega) (by omega); omega) (by have : (1 : Int32).toInt = 1 := rfl; have : (4 : Int32).toInt = 4 := rfl; have := i32_rng (σ 199 13); have := i32_rng v_5; have := i32_rng x2; have u_v_5 : v_5.toInt = (x2).toInt + 1 := (by rw [e_5]; have q := ti_add (a := x2) (b := 1) (by rw [show (1 : Int32).toInt = 1 from rfl]; omega) (by rw [show (1 : Int32).toInt = 1 from rfl]; omega); rw [q, show (1 : Int32).toInt = 1 from rfl]); have := ti_add (a := (σ 199 13)) (b := x2) (by omega) (by omega); omega)
theorem m_H_X12_sign_18 (N : Nat) (hN : 4294967296 ≤ N) : ∀ (n : Nat) (σ : gI) (τ : gJ) (x1 : Int32) (x2 : Int32), (0 ≤ (σ 199 13).toInt ∧ (σ 199 13).toInt ≤ 80) → (0 ≤ x2.toInt) → ((σ 199 13).toInt ≤ 76) → (2147483647 - x2.toInt).toNat < n → okp (fun (a : Int32) σ1 τ1 => 0 ≤ (σ1 199 13).toInt ∧ (σ1 199 13).toInt ≤ 80) (H_X12_sign_18 N n σ τ x1 x2) := by
  intro n
  induction n with
  | zero => intro σ τ x1 x2 _ _ _ hm; exact absurd hm (Nat.not_lt_zero _)
  | succ n ih =>
    intro σ τ x1 x2 ht h0_18 ht2 hm
    exact m_C_X12_sign_18 N hN (H_X12_sign_18 N n) n ih σ τ x1 x2 ht h0_18 hm ht2
set_option maxHeartbeats 2000000 in
theorem m_B_X12_sign_0 (N : Nat) (hN : 4294967296 ≤ N) (σ : gI) (τ : gJ) (x1 : Int32) (ht : 0 ≤ (σ 199 13).toInt ∧ (σ 199 13).toInt ≤ 80) : okp (fun (a : Int32) σ1 τ1 => 0 ≤ (σ1 199 13).toInt ∧ (σ1 199 13).toInt ≤ 80) (B_X12_sign_0 N σ τ x1) := by
  unfold B_X12_sign_0
  refine ok_nm (fun σ_1 e_1 => ?_)
  refine ok_ite (fun c_1 => ?_) (fun c_1 => ?_)
  · simp only [fa_lt, fa_le, fa_eq] at c_1
    exact m_H_X12_sign_18 N hN N σ_1 τ x1 0 (by have : (0 : Int32).toInt = 0 := rfl; have : (13 : Int32).toInt = 13 := rfl; have : (76 : Int32).toInt = 76 := rfl; have : (80 : Int32).toInt = 80 := rfl; have : (199 : Int32).toInt = 199 := rfl; have := i32_rng (σ 199 13); have := congrArg Int32.toInt (show σ_1 199 13 = σ 199 13 from (by rw [e_1]; exact up2_ne (by omega))); have := i32_rng (σ_1 199 13); omega) (by have : (0 : Int32).toInt = 0 := rfl; have : (13 : Int32).toInt = 13 := rfl; have : (76 : Int32).toInt = 76 := rfl; have : (199 : Int32).toInt = 199 := rfl; have := i32_rng (σ 199 13); have := congrArg Int32.toInt (show σ_1 199 13 = σ 199 13 from (by rw [e_1]; exact up2_ne (by omega))); have := i32_rng (σ_1 199 13); omega) (by have : (13 : Int32).toInt = 13 := rfl; have : (76 : Int32).toInt = 76 := rfl; have : (199 : Int32).toInt = 199 := rfl; have := i32_rng (σ 199 13); have := congrArg Int32.toInt (show σ_1 199 13 = σ 199 13 from (by rw [e_1]; exact up2_ne (by omega))); have := i32_rng (σ_1 199 13); omega) (by have : (0 : Int32).toInt = 0 := rfl; have : (13 : Int32).toInt = 13 := rfl; have : (76 : Int32).toInt = 76 := rfl; have : (199 : Int32).toInt = 199 := rfl; have := i32_rng (σ 199 13); have := congrArg Int32.toInt (show σ_1 199 13 = σ 199 13 from (by rw [e_1]; exact up2_ne (by omega))); have := i32_rng (σ_1 199 13); omega)
  · simp only [fa_lt, fa_le, fa_eq] at c_1
    exact ok_r (by have : (0 : Int32).toInt = 0 := rfl; have : (13 : Int32).toInt = 13 := rfl; have : (76 : Int32).toInt = 76 := rfl; have : (80 : Int32).toInt = 80 := rfl; have : (199 : Int32).toInt = 199 := rfl; have := i32_rng (σ 199 13); have := congrArg Int32.toInt (show σ_1 199 13 = σ 199 13 from (by rw [e_1]; exact up2_ne (by omega))); have := i32_rng (σ_1 199 13); omega)
