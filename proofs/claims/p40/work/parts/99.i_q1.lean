section Q1
variable {g : Nat → Int32} {N : Nat}
set_option maxHeartbeats 2000000 in
theorem w_B_X12_canPut_0 (hN : 4294967296 ≤ N) {σ : gI} {τ : gJ} {x1 : Int32} {x2 : Int32} {x3 : Int32} (hQ : QB 16 σ g) : okp (fun (a : Int32) σ1 τ1 => σ = σ1 ∧ (a.toInt = 0 ∨ (a.toInt = 1 ∧ 0 ≤ x1.toInt ∧ x1.toInt < (g 0).toInt))) (B_X12_canPut_0 N σ τ x1 x2 x3) := by
  unfold B_X12_canPut_0
  have hg := qb_rng hQ
  have l_0 : (0 : Int32).toInt = 0 := rfl
  have l_1 : (1 : Int32).toInt = 1 := rfl
  have l_9 : (9 : Int32).toInt = 9 := rfl
  have l_99 : (99 : Int32).toInt = 99 := rfl
  have r_x1 := i32_rng x1
  have r_x2 := i32_rng x2
  have r_x3 := i32_rng x3
  refine ok_bd (w_B_X12_isPlace_0 hN hQ) (fun r_1 σ_1 τ_1 hp_1 => ?_)
  obtain ⟨h9_1, g_1⟩ := hp_1
  subst h9_1
  have r_r_1 := i32_rng r_1
  refine ok_ite (fun c_1 => ?_) (fun c_1 => ?_)
  · simp only [fa_lt, fa_le, fa_eq] at c_1
    exact ok_r ⟨rfl, by omega⟩
  · simp only [fa_lt, fa_le, fa_eq] at c_1
    refine ok_bd (w_B_X12_in_0 hN) (fun r_3 σ_3 τ_3 hp_3 => ?_)
    obtain ⟨h9_3, g_3⟩ := hp_3
    subst h9_3
    have k_3 := g_3.2; simp only [Int32.toInt_toInt64, show (0 : Int64).toInt = 0 from rfl, show (99 : Int64).toInt = 99 from rfl] at k_3
    have r_r_3 := i32_rng r_3
    refine ok_ite (fun c_2 => ?_) (fun c_2 => ?_)
    · simp only [fa_lt, fa_le, fa_eq] at c_2
      exact ok_r ⟨rfl, by omega⟩
    · simp only [fa_lt, fa_le, fa_eq] at c_2
      refine ok_bd (w_B_X12_in_0 hN) (fun r_5 σ_5 τ_5 hp_5 => ?_)
      obtain ⟨h9_5, g_5⟩ := hp_5
      subst h9_5
      have k_5 := g_5.2; simp only [Int32.toInt_toInt64, show (0 : Int64).toInt = 0 from rfl, show (9 : Int64).toInt = 9 from rfl] at k_5
      have r_r_5 := i32_rng r_5
      refine ok_ite (fun c_3 => ?_) (fun c_3 => ?_)
      · simp only [fa_lt, fa_le, fa_eq] at c_3
        exact ok_r ⟨rfl, by omega⟩
      · simp only [fa_lt, fa_le, fa_eq] at c_3
        exact ok_r ⟨rfl, by omega⟩
set_option maxHeartbeats 2000000 in
theorem w_B_X12_canSail_0 (hN : 4294967296 ≤ N) {σ : gI} {τ : gJ} {x1 : Int32} {x2 : Int32} {x3 : Int32} {x4 : Int32} (hQ : QB 16 σ g) : okp (fun (a : Int32) σ1 τ1 => σ = σ1 ∧ (a.toInt = 0 ∨ (a.toInt = 1 ∧ 0 ≤ x1.toInt ∧ x1.toInt < (g 0).toInt))) (B_X12_canSail_0 N σ τ x1 x2 x3 x4) := by
  unfold B_X12_canSail_0
  have hg := qb_rng hQ
  have l_0 : (0 : Int32).toInt = 0 := rfl
  have l_1 : (1 : Int32).toInt = 1 := rfl
  have r_x1 := i32_rng x1
  have r_x2 := i32_rng x2
  have r_x3 := i32_rng x3
  have r_x4 := i32_rng x4
  refine ok_bd (w_B_X12_canPut_0 hN hQ) (fun r_1 σ_1 τ_1 hp_1 => ?_)
  obtain ⟨h9_1, g_1⟩ := hp_1
  subst h9_1
  have r_r_1 := i32_rng r_1
  refine ok_ite (fun c_1 => ?_) (fun c_1 => ?_)
  · simp only [fa_lt, fa_le, fa_eq] at c_1
    exact ok_r ⟨rfl, by omega⟩
  · simp only [fa_lt, fa_le, fa_eq] at c_1
    refine ok_bd (w_B_X12_isKitchen_0 hN hQ) (fun r_3 σ_3 τ_3 hp_3 => ?_)
    obtain ⟨h9_3, g_3⟩ := hp_3
    subst h9_3
    have r_r_3 := i32_rng r_3
    refine ok_ite (fun c_2 => ?_) (fun c_2 => ?_)
    · simp only [fa_lt, fa_le, fa_eq] at c_2
      exact ok_r ⟨rfl, by omega⟩
    · simp only [fa_lt, fa_le, fa_eq] at c_2
      exact ok_r ⟨rfl, by omega⟩
set_option maxHeartbeats 2000000 in
theorem w_B_X12_where_0 (hN : 4294967296 ≤ N) {σ : gI} {τ : gJ} {x1 : Int32} {x2 : Int32} (hQ : QB 16 σ g) : okp (fun (a : Int32) σ1 τ1 => QB 16 σ1 g) (B_X12_where_0 N σ τ x1 x2) := by
  unfold B_X12_where_0
  have hg := qb_rng hQ
  have l_m1 : (-1 : Int32).toInt = -1 := rfl
  have l_0 : (0 : Int32).toInt = 0 := rfl
  have l_1 : (1 : Int32).toInt = 1 := rfl
  have l_2 : (2 : Int32).toInt = 2 := rfl
  have l_4 : (4 : Int32).toInt = 4 := rfl
  have l_7 : (7 : Int32).toInt = 7 := rfl
  have l_45 : (45 : Int32).toInt = 45 := rfl
  have l_199 : (199 : Int32).toInt = 199 := rfl
  have l_207 : (207 : Int32).toInt = 207 := rfl
  have l_300 : (300 : Int32).toInt = 300 := rfl
  have r_x1 := i32_rng x1
  have r_x2 := i32_rng x2
  refine ok_nm (fun σ_1 e_1 => ?_)
  have hQ_1 := qb_up hQ e_1 (by omega)
  refine ok_bd (w_B_X12_isThing_0 hN hQ_1) (fun r_2 σ_2 τ_2 hp_2 => ?_)
  obtain ⟨h9_2, g_2⟩ := hp_2
  subst h9_2
  have r_r_2 := i32_rng r_2
  refine ok_ite (fun c_1 => ?_) (fun c_1 => ?_)
  · simp only [fa_lt, fa_le, fa_eq] at c_1
    exact ok_r (qb_w hQ_1 (by omega))
  · simp only [fa_lt, fa_le, fa_eq] at c_1
    refine ok_bd (w_B_X12_in_0 hN) (fun r_4 σ_4 τ_4 hp_4 => ?_)
    obtain ⟨h9_4, g_4⟩ := hp_4
    subst h9_4
    have k_4 := g_4.2; simp only [Int32.toInt_toInt64, show (0 : Int64).toInt = 0 from rfl, show (300 : Int64).toInt = 300 from rfl] at k_4
    have r_r_4 := i32_rng r_4
    refine ok_ite (fun c_2 => ?_) (fun c_2 => ?_)
    · simp only [fa_lt, fa_le, fa_eq] at c_2
      exact ok_r (qb_w hQ_1 (by omega))
    · simp only [fa_lt, fa_le, fa_eq] at c_2
      refine ok_bd (w_B_X12_goesOn_0 hN hQ_1 (by omega)) (fun _ σ_6 τ_6 hp_6 => ?_)
      have hQ_6 : QB 16 σ_6 g := hp_6.1
      have g_6 := hp_6.2
      have hG_6 := hp_6.2
      refine ok_nm (fun σ_7 e_7 => ?_)
      have hQ_7 := qb_r0 hQ_6 e_7
      have hG_7 := gq_up hG_6 e_7 (by omega)
      have i_8 := ti_7k (x := x1) (k := 4) (by omega) (by omega)
      refine ok_ck ⟨by omega, by omega⟩ (fun j_8 hj_8 lj_8 => ?_)
      refine ok_bd (w_B_X12_enters_0 hN hQ_7 (by omega)) (fun _ σ_9 τ_9 hp_9 => ?_)
      have hQ_9 : QB 1 σ_9 g := hp_9.1
      have g_9 := hp_9.2
      have hG_9 := gq_fr hG_7 (fun c k h => hp_9.2 c k (by omega))
      have i_10 := ti_7k (x := x1) (k := 1) (by omega) (by omega)
      refine ok_ck ⟨by omega, by omega⟩ (fun j_10 hj_10 lj_10 => ?_)
      refine ok_bd (w_B_X12_enters_0 hN hQ_9 (by omega)) (fun _ σ_11 τ_11 hp_11 => ?_)
      have hQ_11 : QB 2 σ_11 g := hp_11.1
      have g_11 := hp_11.2
      have hG_11 := gq_fr hG_9 (fun c k h => hp_11.2 c k (by omega))
      have i_12 := ti_7k (x := x1) (k := 2) (by omega) (by omega)
      refine ok_ck ⟨by omega, by omega⟩ (fun j_12 hj_12 lj_12 => ?_)
      refine ok_bd (w_B_X12_enters_0 hN hQ_11 (by omega)) (fun _ σ_13 τ_13 hp_13 => ?_)
      have hQ_13 : QB 3 σ_13 g := hp_13.1
      have g_13 := hp_13.2
      have hG_13 := gq_fr hG_11 (fun c k h => hp_13.2 c k (by omega))
      have i_14 := ti_7k (x := x1) (k := 0) (by omega) (by omega)
      refine ok_ck ⟨by omega, by omega⟩ (fun j_14 hj_14 lj_14 => ?_)
      exact ok_r (qb_w hQ_13 (by omega))
set_option maxHeartbeats 2000000 in
theorem w_B_X12_comes_0 (hN : 4294967296 ≤ N) {σ : gI} {τ : gJ} {x1 : Int32} (hQ : QB 16 σ g) : okp (fun (a : Int32) σ1 τ1 => QB 16 σ1 g) (B_X12_comes_0 N σ τ x1) := by
  unfold B_X12_comes_0
  have hg := qb_rng hQ
  have l_m3 : (-3 : Int32).toInt = -3 := rfl
  have l_m2 : (-2 : Int32).toInt = -2 := rfl
  have l_m1 : (-1 : Int32).toInt = -1 := rfl
  have l_0 : (0 : Int32).toInt = 0 := rfl
  have l_1 : (1 : Int32).toInt = 1 := rfl
  have l_2 : (2 : Int32).toInt = 2 := rfl
  have l_3 : (3 : Int32).toInt = 3 := rfl
  have l_4 : (4 : Int32).toInt = 4 := rfl
  have l_7 : (7 : Int32).toInt = 7 := rfl
  have l_45 : (45 : Int32).toInt = 45 := rfl
  have l_199 : (199 : Int32).toInt = 199 := rfl
  have l_207 : (207 : Int32).toInt = 207 := rfl
  have r_x1 := i32_rng x1
  refine ok_nm (fun σ_1 e_1 => ?_)
  have hQ_1 := qb_up hQ e_1 (by omega)
  refine ok_bd (w_B_X12_isThing_0 hN hQ_1) (fun r_2 σ_2 τ_2 hp_2 => ?_)
  obtain ⟨h9_2, g_2⟩ := hp_2
  subst h9_2
  have r_r_2 := i32_rng r_2
  refine ok_ite (fun c_1 => ?_) (fun c_1 => ?_)
  · simp only [fa_lt, fa_le, fa_eq] at c_1
    exact ok_r (qb_w hQ_1 (by omega))
  · simp only [fa_lt, fa_le, fa_eq] at c_1
    refine ok_bd (w_B_X12_puts_0 hN hQ_1) (fun _ σ_4 τ_4 hp_4 => ?_)
    have hQ_4 : QB 16 σ_4 g := hp_4.1
    have g_4 := hp_4.2
    have hG_4 := hp_4.2
    refine ok_bd (w_endsAfter hN hQ_4 hG_4 (by omega) (by omega) (by omega) (by omega) (by omega)) (fun r_5 σ_5 τ_5 hp_5 => ?_)
    have hQ_5 : QB 16 σ_5 g := hp_5.1
    have g_5 := hp_5.2
    have hG_5 := hp_5.2
    have r_r_5 := i32_rng r_5
    refine ok_nm (fun v_6 e_6 => ?_)
    have u_6 : v_6.toInt = 7 * x1.toInt := by rw [e_6, ti_mul7 (by omega)]
    refine ok_nm (fun σ_7 e_7 => ?_)
    have hQ_7 := qb_r0 hQ_5 e_7
    have hG_7 := gq_up hG_5 e_7 (by omega)
    have i_8 := ti_add (a := v_6) (b := 0) (by omega) (by omega)
    refine ok_ck ⟨by omega, by omega⟩ (fun j_8 hj_8 lj_8 => ?_)
    refine ok_bd (w_B_X12_enters_0 hN hQ_7 (by omega)) (fun _ σ_9 τ_9 hp_9 => ?_)
    have hQ_9 : QB 1 σ_9 g := hp_9.1
    have g_9 := hp_9.2
    have hG_9 := gq_fr hG_7 (fun c k h => hp_9.2 c k (by omega))
    refine ok_ite (fun c_2 => ?_) (fun c_2 => ?_)
    · simp only [fa_lt, fa_le, fa_eq] at c_2
      refine ok_ite (fun c_3 => ?_) (fun c_3 => ?_)
      · simp only [fa_lt, fa_le, fa_eq] at c_3
        exact ok_r (qb_w hQ_9 (by omega))
      · simp only [fa_lt, fa_le, fa_eq] at c_3
        exact ok_r (qb_w hQ_9 (by omega))
    · simp only [fa_lt, fa_le, fa_eq] at c_2
      have i_12 := ti_add (a := v_6) (b := 4) (by omega) (by omega)
      refine ok_ck ⟨by omega, by omega⟩ (fun j_12 hj_12 lj_12 => ?_)
      refine ok_ite (fun c_4 => ?_) (fun c_4 => ?_)
      · simp only [fa_lt, fa_le, fa_eq] at c_4
        refine ok_ite (fun c_5 => ?_) (fun c_5 => ?_)
        · simp only [fa_lt, fa_le, fa_eq] at c_5
          exact ok_r (qb_w hQ_9 (by omega))
        · simp only [fa_lt, fa_le, fa_eq] at c_5
          exact ok_r (qb_w hQ_9 (by omega))
      · simp only [fa_lt, fa_le, fa_eq] at c_4
        have i_14 := ti_add (a := v_6) (b := 3) (by omega) (by omega)
        refine ok_ck ⟨by omega, by omega⟩ (fun j_14 hj_14 lj_14 => ?_)
        refine ok_bd (w_B_X12_enters_0 hN hQ_9 (by omega)) (fun _ σ_15 τ_15 hp_15 => ?_)
        have hQ_15 : QB 2 σ_15 g := hp_15.1
        have g_15 := hp_15.2
        have hG_15 := gq_fr hG_9 (fun c k h => hp_15.2 c k (by omega))
        exact ok_r (qb_w hQ_15 (by omega))
set_option maxHeartbeats 2000000 in
theorem w_B_X12_homes_0 (hN : 4294967296 ≤ N) {σ : gI} {τ : gJ} {x1 : Int32} (hQ : QB 16 σ g) : okp (fun (a : Int32) σ1 τ1 => QB 16 σ1 g) (B_X12_homes_0 N σ τ x1) := by
  unfold B_X12_homes_0
  have hg := qb_rng hQ
  have l_m1 : (-1 : Int32).toInt = -1 := rfl
  have l_0 : (0 : Int32).toInt = 0 := rfl
  have l_1 : (1 : Int32).toInt = 1 := rfl
  have l_2 : (2 : Int32).toInt = 2 := rfl
  have l_199 : (199 : Int32).toInt = 199 := rfl
  have l_207 : (207 : Int32).toInt = 207 := rfl
  have l_300 : (300 : Int32).toInt = 300 := rfl
  have r_x1 := i32_rng x1
  refine ok_nm (fun σ_1 e_1 => ?_)
  have hQ_1 := qb_up hQ e_1 (by omega)
  refine ok_bd (w_B_X12_in_0 hN) (fun r_2 σ_2 τ_2 hp_2 => ?_)
  obtain ⟨h9_2, g_2⟩ := hp_2
  subst h9_2
  have k_2 := g_2.2; simp only [Int32.toInt_toInt64, show (0 : Int64).toInt = 0 from rfl, show (300 : Int64).toInt = 300 from rfl] at k_2
  have r_r_2 := i32_rng r_2
  refine ok_ite (fun c_1 => ?_) (fun c_1 => ?_)
  · simp only [fa_lt, fa_le, fa_eq] at c_1
    exact ok_r (qb_w hQ_1 (by omega))
  · simp only [fa_lt, fa_le, fa_eq] at c_1
    refine ok_bd (w_B_X12_goesOn_0 hN hQ_1 (by omega)) (fun _ σ_4 τ_4 hp_4 => ?_)
    have hQ_4 : QB 16 σ_4 g := hp_4.1
    have g_4 := hp_4.2
    have hG_4 := hp_4.2
    refine ok_nm (fun σ_5 e_5 => ?_)
    have hQ_5 := qb_r0 hQ_4 e_5
    have hG_5 := gq_up hG_4 e_5 (by omega)
    refine ok_bd (w_B_X12_thoseHow_0 hN hG_5 (by omega)) (fun r_6 σ_6 τ_6 hp_6 => ?_)
    obtain ⟨h9_6, g_6⟩ := hp_6
    subst h9_6
    have r_r_6 := i32_rng r_6
    refine ok_bd (w_B_X12_enters_0 hN hQ_5 (by omega)) (fun _ σ_7 τ_7 hp_7 => ?_)
    have hQ_7 : QB 1 σ_7 g := hp_7.1
    have g_7 := hp_7.2
    have hG_7 := gq_fr hG_5 (fun c k h => hp_7.2 c k (by omega))
    refine ok_bd (w_B_X12_thoseHow_0 hN hG_7 (by omega)) (fun r_8 σ_8 τ_8 hp_8 => ?_)
    obtain ⟨h9_8, g_8⟩ := hp_8
    subst h9_8
    have r_r_8 := i32_rng r_8
    refine ok_bd (w_B_X12_enters_0 hN hQ_7 (by omega)) (fun _ σ_9 τ_9 hp_9 => ?_)
    have hQ_9 : QB 2 σ_9 g := hp_9.1
    have g_9 := hp_9.2
    have hG_9 := gq_fr hG_7 (fun c k h => hp_9.2 c k (by omega))
    refine ok_bd (w_B_X12_thoseHow_0 hN hG_9 (by omega)) (fun r_10 σ_10 τ_10 hp_10 => ?_)
    obtain ⟨h9_10, g_10⟩ := hp_10
    subst h9_10
    have r_r_10 := i32_rng r_10
    exact ok_r (qb_w hQ_9 (by omega))
set_option maxHeartbeats 2000000 in
theorem w_B_X12_sail_0 (hN : 4294967296 ≤ N) {σ : gI} {τ : gJ} {x1 : Int32} {x2 : Int32} {x3 : Int32} {x4 : Int32} {x5 : Int32} (hQ : QB 16 σ g) : okp (fun (a : Int32) σ1 τ1 => QB 16 σ1 g) (B_X12_sail_0 N σ τ x1 x2 x3 x4 x5) := by
  unfold B_X12_sail_0
  have hg := qb_rng hQ
  have l_m1 : (-1 : Int32).toInt = -1 := rfl
  have l_0 : (0 : Int32).toInt = 0 := rfl
  have l_1 : (1 : Int32).toInt = 1 := rfl
  have l_99 : (99 : Int32).toInt = 99 := rfl
  have r_x1 := i32_rng x1
  have r_x2 := i32_rng x2
  have r_x3 := i32_rng x3
  have r_x4 := i32_rng x4
  have r_x5 := i32_rng x5
  refine ok_nm (fun σ_1 e_1 => ?_)
  have hQ_1 := qb_up hQ e_1 (by omega)
  refine ok_bd (w_B_X12_canSail_0 hN hQ_1) (fun r_2 σ_2 τ_2 hp_2 => ?_)
  obtain ⟨h9_2, g_2⟩ := hp_2
  subst h9_2
  have r_r_2 := i32_rng r_2
  refine ok_ite (fun c_1 => ?_) (fun c_1 => ?_)
  · simp only [fa_lt, fa_le, fa_eq] at c_1
    exact ok_r (qb_w hQ_1 (by omega))
  · simp only [fa_lt, fa_le, fa_eq] at c_1
    refine ok_bd (w_B_X12_in_0 hN) (fun r_4 σ_4 τ_4 hp_4 => ?_)
    obtain ⟨h9_4, g_4⟩ := hp_4
    subst h9_4
    have k_4 := g_4.2; simp only [Int32.toInt_toInt64, show (0 : Int64).toInt = 0 from rfl, show (99 : Int64).toInt = 99 from rfl] at k_4
    have r_r_4 := i32_rng r_4
    refine ok_ite (fun c_2 => ?_) (fun c_2 => ?_)
    · simp only [fa_lt, fa_le, fa_eq] at c_2
      exact ok_r (qb_w hQ_1 (by omega))
    · simp only [fa_lt, fa_le, fa_eq] at c_2
      refine ok_bd (w_B_X12_thinksNow_0 hN hQ_1) (fun _ σ_6 τ_6 hp_6 => ?_)
      have hQ_6 : QB 16 σ_6 g := hp_6
      refine ok_bd (w_B_X12_sails_0 hN hQ_6 (by omega)) (fun r_7 σ_7 τ_7 hp_7 => ?_)
      have hQ_7 : QB 16 σ_7 g := hp_7.1
      have g_7 := hp_7.2
      have r_r_7 := i32_rng r_7
      exact ok_r (qb_w hQ_7 (by omega))
set_option maxHeartbeats 2000000 in
theorem w_C_X12_boat_25 (hN : 4294967296 ≤ N) {rec_25 : gI → gJ → Int32 → Int32 → Int32 → Int32 → Option (Int32 × gI × gJ)} {n_25 : Nat} (hrec_25 : ∀ (σ : gI) (τ : gJ) (x1 : Int32) (x2 : Int32) (x3 : Int32) (x4 : Int32), QB 16 σ g → (0 ≤ x4.toInt) → (0 ≤ x1.toInt ∧ x1.toInt < (g 0).toInt) → (2147483647 - x4.toInt).toNat < n_25 → okp (fun (a : Int32) σ1 τ1 => QB 16 σ1 g) (rec_25 σ τ x1 x2 x3 x4)) {σ : gI} {τ : gJ} {x1 : Int32} {x2 : Int32} {x3 : Int32} {x4 : Int32} (hQ : QB 16 σ g) (h0_25 : 0 ≤ x4.toInt) (hm_25 : (2147483647 - x4.toInt).toNat < n_25 + 1) (h1 : 0 ≤ x1.toInt ∧ x1.toInt < (g 0).toInt) : okp (fun (a : Int32) σ1 τ1 => QB 16 σ1 g) (C_X12_boat_25 N rec_25 σ τ x1 x2 x3 x4) := by
  unfold C_X12_boat_25
  have hg := qb_rng hQ
  have l_m2 : (-2 : Int32).toInt = -2 := rfl
  have l_0 : (0 : Int32).toInt = 0 := rfl
  have l_1 : (1 : Int32).toInt = 1 := rfl
  have l_99 : (99 : Int32).toInt = 99 := rfl
  have l_199 : (199 : Int32).toInt = 199 := rfl
  have r_x1 := i32_rng x1
  have r_x2 := i32_rng x2
  have r_x3 := i32_rng x3
  have r_x4 := i32_rng x4
  refine ok_ite (fun c_1 => ?_) (fun c_1 => ?_)
  · simp only [fa_lt, fa_le, fa_eq] at c_1
    exact ok_r (qb_w hQ (by omega))
  · simp only [fa_lt, fa_le, fa_eq] at c_1
    refine ok_bd (w_B_X12_sails_0 hN hQ (by omega)) (fun r_2 σ_2 τ_2 hp_2 => ?_)
    have hQ_2 : QB 16 σ_2 g := hp_2.1
    have g_2 := hp_2.2
    have r_r_2 := i32_rng r_2
    refine ok_ite (fun c_2 => ?_) (fun c_2 => ?_)
    · simp only [fa_lt, fa_le, fa_eq] at c_2
      refine ok_nm (fun v_4 e_4 => ?_)
      have u_4 : v_4.toInt = x4.toInt + (1 : Int32).toInt := by rw [e_4]; exact ti_add (by omega) (by omega)
      exact hrec_25 _ _ _ _ _ _ hQ_2 (by omega) (by omega) (by omega)
    · simp only [fa_lt, fa_le, fa_eq] at c_2
      refine ok_nm (fun σ_5 e_5 => ?_)
      have hQ_5 := qb_r0 hQ_2 e_5
      refine ok_bd (w_B_X12_enters_0 hN hQ_5 (by omega)) (fun _ σ_6 τ_6 hp_6 => ?_)
      have hQ_6 : QB 1 σ_6 g := hp_6.1
      have g_6 := hp_6.2
      exact ok_r (qb_w hQ_6 (by omega))
theorem w_H_X12_boat_25 (hN : 4294967296 ≤ N) : ∀ (n : Nat) (σ : gI) (τ : gJ) (x1 : Int32) (x2 : Int32) (x3 : Int32) (x4 : Int32), QB 16 σ g → (0 ≤ x4.toInt) → (0 ≤ x1.toInt ∧ x1.toInt < (g 0).toInt) → (2147483647 - x4.toInt).toNat < n → okp (fun (a : Int32) σ1 τ1 => QB 16 σ1 g) (H_X12_boat_25 N n σ τ x1 x2 x3 x4) := by
  intro n
  induction n with
  | zero => intro σ τ x1 x2 x3 x4 _ _ _ hm; exact absurd hm (Nat.not_lt_zero _)
  | succ n ih =>
    intro σ τ x1 x2 x3 x4 hQ h0_25 h1 hm
    exact w_C_X12_boat_25 hN ih hQ h0_25 hm h1
set_option maxHeartbeats 2000000 in
theorem w_B_X12_boat_0 (hN : 4294967296 ≤ N) {σ : gI} {τ : gJ} {x1 : Int32} {x2 : Int32} {x3 : Int32} (hQ : QB 16 σ g) : okp (fun (a : Int32) σ1 τ1 => QB 16 σ1 g) (B_X12_boat_0 N σ τ x1 x2 x3) := by
  unfold B_X12_boat_0
  have hg := qb_rng hQ
  have l_m1 : (-1 : Int32).toInt = -1 := rfl
  have l_0 : (0 : Int32).toInt = 0 := rfl
  have l_1 : (1 : Int32).toInt = 1 := rfl
  have r_x1 := i32_rng x1
  have r_x2 := i32_rng x2
  have r_x3 := i32_rng x3
  refine ok_nm (fun σ_1 e_1 => ?_)
  have hQ_1 := qb_up hQ e_1 (by omega)
  refine ok_bd (w_B_X12_canSail_0 hN hQ_1) (fun r_2 σ_2 τ_2 hp_2 => ?_)
  obtain ⟨h9_2, g_2⟩ := hp_2
  subst h9_2
  have r_r_2 := i32_rng r_2
  refine ok_ite (fun c_1 => ?_) (fun c_1 => ?_)
  · simp only [fa_lt, fa_le, fa_eq] at c_1
    exact ok_r (qb_w hQ_1 (by omega))
  · simp only [fa_lt, fa_le, fa_eq] at c_1
    refine ok_bd (w_B_X12_thinksNow_0 hN hQ_1) (fun _ σ_4 τ_4 hp_4 => ?_)
    have hQ_4 : QB 16 σ_4 g := hp_4
    exact w_H_X12_boat_25 hN N _ _ _ _ _ _ hQ_4 (by omega) (by omega) (by omega)
set_option maxHeartbeats 2000000 in
theorem w_C_X12_coins_25 (hN : 4294967296 ≤ N) {rec_25 : gI → gJ → Int32 → Int32 → Int32 → Int32 → Option (Int32 × gI × gJ)} {n_25 : Nat} (hrec_25 : ∀ (σ : gI) (τ : gJ) (x1 : Int32) (x2 : Int32) (x3 : Int32) (x4 : Int32), QB 16 σ g → (0 ≤ x4.toInt) → (0 ≤ x1.toInt ∧ x1.toInt < (g 0).toInt) → (2147483647 - x4.toInt).toNat < n_25 → okp (fun (a : Int32) σ1 τ1 => QB 16 σ1 g) (rec_25 σ τ x1 x2 x3 x4)) {σ : gI} {τ : gJ} {x1 : Int32} {x2 : Int32} {x3 : Int32} {x4 : Int32} (hQ : QB 16 σ g) (h0_25 : 0 ≤ x4.toInt) (hm_25 : (2147483647 - x4.toInt).toNat < n_25 + 1) (h1 : 0 ≤ x1.toInt ∧ x1.toInt < (g 0).toInt) : okp (fun (a : Int32) σ1 τ1 => QB 16 σ1 g) (C_X12_coins_25 N rec_25 σ τ x1 x2 x3 x4) := by
  unfold C_X12_coins_25
  have hg := qb_rng hQ
  have l_m2 : (-2 : Int32).toInt = -2 := rfl
  have l_0 : (0 : Int32).toInt = 0 := rfl
  have l_1 : (1 : Int32).toInt = 1 := rfl
  have l_9 : (9 : Int32).toInt = 9 := rfl
  have l_199 : (199 : Int32).toInt = 199 := rfl
  have r_x1 := i32_rng x1
  have r_x2 := i32_rng x2
  have r_x3 := i32_rng x3
  have r_x4 := i32_rng x4
  refine ok_ite (fun c_1 => ?_) (fun c_1 => ?_)
  · simp only [fa_lt, fa_le, fa_eq] at c_1
    exact ok_r (qb_w hQ (by omega))
  · simp only [fa_lt, fa_le, fa_eq] at c_1
    refine ok_bd (w_B_X12_sails_0 hN hQ (by omega)) (fun r_2 σ_2 τ_2 hp_2 => ?_)
    have hQ_2 : QB 16 σ_2 g := hp_2.1
    have g_2 := hp_2.2
    have r_r_2 := i32_rng r_2
    refine ok_ite (fun c_2 => ?_) (fun c_2 => ?_)
    · simp only [fa_lt, fa_le, fa_eq] at c_2
      refine ok_nm (fun v_4 e_4 => ?_)
      have u_4 : v_4.toInt = x4.toInt + (1 : Int32).toInt := by rw [e_4]; exact ti_add (by omega) (by omega)
      exact hrec_25 _ _ _ _ _ _ hQ_2 (by omega) (by omega) (by omega)
    · simp only [fa_lt, fa_le, fa_eq] at c_2
      refine ok_nm (fun σ_5 e_5 => ?_)
      have hQ_5 := qb_r0 hQ_2 e_5
      refine ok_bd (w_B_X12_enters_0 hN hQ_5 (by omega)) (fun _ σ_6 τ_6 hp_6 => ?_)
      have hQ_6 : QB 1 σ_6 g := hp_6.1
      have g_6 := hp_6.2
      exact ok_r (qb_w hQ_6 (by omega))
theorem w_H_X12_coins_25 (hN : 4294967296 ≤ N) : ∀ (n : Nat) (σ : gI) (τ : gJ) (x1 : Int32) (x2 : Int32) (x3 : Int32) (x4 : Int32), QB 16 σ g → (0 ≤ x4.toInt) → (0 ≤ x1.toInt ∧ x1.toInt < (g 0).toInt) → (2147483647 - x4.toInt).toNat < n → okp (fun (a : Int32) σ1 τ1 => QB 16 σ1 g) (H_X12_coins_25 N n σ τ x1 x2 x3 x4) := by
  intro n
  induction n with
  | zero => intro σ τ x1 x2 x3 x4 _ _ _ hm; exact absurd hm (Nat.not_lt_zero _)
  | succ n ih =>
    intro σ τ x1 x2 x3 x4 hQ h0_25 h1 hm
    exact w_C_X12_coins_25 hN ih hQ h0_25 hm h1
set_option maxHeartbeats 2000000 in
theorem w_B_X12_coins_0 (hN : 4294967296 ≤ N) {σ : gI} {τ : gJ} {x1 : Int32} {x2 : Int32} {x3 : Int32} (hQ : QB 16 σ g) : okp (fun (a : Int32) σ1 τ1 => QB 16 σ1 g) (B_X12_coins_0 N σ τ x1 x2 x3) := by
  unfold B_X12_coins_0
  have hg := qb_rng hQ
  have l_m1 : (-1 : Int32).toInt = -1 := rfl
  have l_0 : (0 : Int32).toInt = 0 := rfl
  have l_1 : (1 : Int32).toInt = 1 := rfl
  have r_x1 := i32_rng x1
  have r_x2 := i32_rng x2
  have r_x3 := i32_rng x3
  refine ok_nm (fun σ_1 e_1 => ?_)
  have hQ_1 := qb_up hQ e_1 (by omega)
  refine ok_bd (w_B_X12_canSail_0 hN hQ_1) (fun r_2 σ_2 τ_2 hp_2 => ?_)
  obtain ⟨h9_2, g_2⟩ := hp_2
  subst h9_2
  have r_r_2 := i32_rng r_2
  refine ok_ite (fun c_1 => ?_) (fun c_1 => ?_)
  · simp only [fa_lt, fa_le, fa_eq] at c_1
    exact ok_r (qb_w hQ_1 (by omega))
  · simp only [fa_lt, fa_le, fa_eq] at c_1
    refine ok_bd (w_B_X12_thinksNow_0 hN hQ_1) (fun _ σ_4 τ_4 hp_4 => ?_)
    have hQ_4 : QB 16 σ_4 g := hp_4
    exact w_H_X12_coins_25 hN N _ _ _ _ _ _ hQ_4 (by omega) (by omega) (by omega)
set_option maxHeartbeats 2000000 in
theorem w_B_X12_waits_75 (hN : 4294967296 ≤ N) {rec_35 : gI → gJ → Int32 → Int32 → Int32 → Int32 → Int32 → Int32 → Int32 → Int32 → Option (Int32 × gI × gJ)} {n_35 : Nat} (hrec_35 : ∀ (σ : gI) (τ : gJ) (x1 : Int32) (x2 : Int32) (x3 : Int32) (x4 : Int32) (x5 : Int32) (x6 : Int32) (x7 : Int32) (x8 : Int32), QB 16 σ g → (0 ≤ x8.toInt) → (0 ≤ x1.toInt ∧ x1.toInt < (g 0).toInt) → (2147483647 - x8.toInt).toNat < n_35 → okp (fun (a : Int32) σ1 τ1 => QB 16 σ1 g) (rec_35 σ τ x1 x2 x3 x4 x5 x6 x7 x8)) {σ : gI} {τ : gJ} {x1 : Int32} {x2 : Int32} {x3 : Int32} {x4 : Int32} {x5 : Int32} {x6 : Int32} {x7 : Int32} {x8 : Int32} {y0 : Int32} (hQ : QB 16 σ g) (h0_35 : 0 ≤ x8.toInt) (hm_35 : (2147483647 - x8.toInt).toNat < n_35 + 1) (hlt_35 : x8.toInt < 2147483647) (h1 : 0 ≤ x1.toInt ∧ x1.toInt < (g 0).toInt) (hx : x8.toInt < 30) : okp (fun (a : Int32) σ1 τ1 => QB 16 σ1 g) (B_X12_waits_75 N rec_35 σ τ x1 x2 x3 x4 x5 x6 x7 x8 y0) := by
  unfold B_X12_waits_75
  have hg := qb_rng hQ
  have l_0 : (0 : Int32).toInt = 0 := rfl
  have l_1 : (1 : Int32).toInt = 1 := rfl
  have l_31 : (31 : Int32).toInt = 31 := rfl
  have r_x1 := i32_rng x1
  have r_x2 := i32_rng x2
  have r_x3 := i32_rng x3
  have r_x4 := i32_rng x4
  have r_x5 := i32_rng x5
  have r_x6 := i32_rng x6
  have r_x7 := i32_rng x7
  have r_x8 := i32_rng x8
  have r_y0 := i32_rng y0
  refine ok_nm (fun v_1 e_1 => ?_)
  refine ok_ite (fun c_1 => ?_) (fun c_1 => ?_)
  · simp only [fa_lt, fa_le, fa_eq] at c_1
    refine ok_ite (fun c_2 => ?_) (fun c_2 => ?_)
    · simp only [fa_lt, fa_le, fa_eq] at c_2
      refine ok_nm (fun v_4 e_4 => ?_)
      have u_4 : v_4.toInt = x8.toInt + (1 : Int32).toInt := by rw [e_4]; exact ti_add (by omega) (by omega)
      exact hrec_35 _ _ _ _ _ _ _ _ _ _ hQ (by omega) (by omega) (by omega)
    · simp only [fa_lt, fa_le, fa_eq] at c_2
      refine ok_ite (fun c_3 => ?_) (fun c_3 => ?_)
      · simp only [fa_lt, fa_le, fa_eq] at c_3
        refine ok_nm (fun v_6 e_6 => ?_)
        have u_6 : v_6.toInt = x8.toInt + (1 : Int32).toInt := by rw [e_6]; exact ti_add (by omega) (by omega)
        exact hrec_35 _ _ _ _ _ _ _ _ _ _ hQ (by omega) (by omega) (by omega)
      · simp only [fa_lt, fa_le, fa_eq] at c_3
        refine ok_nm (fun v_7 e_7 => ?_)
        have u_7 : v_7.toInt = x8.toInt + (1 : Int32).toInt := by rw [e_7]; exact ti_add (by omega) (by omega)
        exact hrec_35 _ _ _ _ _ _ _ _ _ _ hQ (by omega) (by omega) (by omega)
  · simp only [fa_lt, fa_le, fa_eq] at c_1
    refine ok_ite (fun c_4 => ?_) (fun c_4 => ?_)
    · simp only [fa_lt, fa_le, fa_eq] at c_4
      refine ok_ite (fun c_5 => ?_) (fun c_5 => ?_)
      · simp only [fa_lt, fa_le, fa_eq] at c_5
        refine ok_nm (fun v_10 e_10 => ?_)
        have u_10 : v_10.toInt = x8.toInt + (1 : Int32).toInt := by rw [e_10]; exact ti_add (by omega) (by omega)
        exact hrec_35 _ _ _ _ _ _ _ _ _ _ hQ (by omega) (by omega) (by omega)
      · simp only [fa_lt, fa_le, fa_eq] at c_5
        refine ok_ite (fun c_6 => ?_) (fun c_6 => ?_)
        · simp only [fa_lt, fa_le, fa_eq] at c_6
          refine ok_nm (fun v_12 e_12 => ?_)
          have u_12 : v_12.toInt = x8.toInt + (1 : Int32).toInt := by rw [e_12]; exact ti_add (by omega) (by omega)
          exact hrec_35 _ _ _ _ _ _ _ _ _ _ hQ (by omega) (by omega) (by omega)
        · simp only [fa_lt, fa_le, fa_eq] at c_6
          refine ok_nm (fun v_13 e_13 => ?_)
          have u_13 : v_13.toInt = x8.toInt + (1 : Int32).toInt := by rw [e_13]; exact ti_add (by omega) (by omega)
          exact hrec_35 _ _ _ _ _ _ _ _ _ _ hQ (by omega) (by omega) (by omega)
    · simp only [fa_lt, fa_le, fa_eq] at c_4
      refine ok_ite (fun c_7 => ?_) (fun c_7 => ?_)
      · simp only [fa_lt, fa_le, fa_eq] at c_7
        refine ok_nm (fun v_15 e_15 => ?_)
        have u_15 : v_15.toInt = x8.toInt + (1 : Int32).toInt := by rw [e_15]; exact ti_add (by omega) (by omega)
        exact hrec_35 _ _ _ _ _ _ _ _ _ _ hQ (by omega) (by omega) (by omega)
      · simp only [fa_lt, fa_le, fa_eq] at c_7
        refine ok_ite (fun c_8 => ?_) (fun c_8 => ?_)
        · simp only [fa_lt, fa_le, fa_eq] at c_8
          refine ok_nm (fun v_17 e_17 => ?_)
          have u_17 : v_17.toInt = x8.toInt + (1 : Int32).toInt := by rw [e_17]; exact ti_add (by omega) (by omega)
          exact hrec_35 _ _ _ _ _ _ _ _ _ _ hQ (by omega) (by omega) (by omega)
        · simp only [fa_lt, fa_le, fa_eq] at c_8
          refine ok_nm (fun v_18 e_18 => ?_)
          have u_18 : v_18.toInt = x8.toInt + (1 : Int32).toInt := by rw [e_18]; exact ti_add (by omega) (by omega)
          exact hrec_35 _ _ _ _ _ _ _ _ _ _ hQ (by omega) (by omega) (by omega)
set_option maxHeartbeats 2000000 in
theorem w_C_X12_waits_35 (hN : 4294967296 ≤ N) {rec_35 : gI → gJ → Int32 → Int32 → Int32 → Int32 → Int32 → Int32 → Int32 → Int32 → Option (Int32 × gI × gJ)} {n_35 : Nat} (hrec_35 : ∀ (σ : gI) (τ : gJ) (x1 : Int32) (x2 : Int32) (x3 : Int32) (x4 : Int32) (x5 : Int32) (x6 : Int32) (x7 : Int32) (x8 : Int32), QB 16 σ g → (0 ≤ x8.toInt) → (0 ≤ x1.toInt ∧ x1.toInt < (g 0).toInt) → (2147483647 - x8.toInt).toNat < n_35 → okp (fun (a : Int32) σ1 τ1 => QB 16 σ1 g) (rec_35 σ τ x1 x2 x3 x4 x5 x6 x7 x8)) {σ : gI} {τ : gJ} {x1 : Int32} {x2 : Int32} {x3 : Int32} {x4 : Int32} {x5 : Int32} {x6 : Int32} {x7 : Int32} {x8 : Int32} (hQ : QB 16 σ g) (h0_35 : 0 ≤ x8.toInt) (hm_35 : (2147483647 - x8.toInt).toNat < n_35 + 1) (h1 : 0 ≤ x1.toInt ∧ x1.toInt < (g 0).toInt) : okp (fun (a : Int32) σ1 τ1 => QB 16 σ1 g) (C_X12_waits_35 N rec_35 σ τ x1 x2 x3 x4 x5 x6 x7 x8) := by
  unfold C_X12_waits_35
  have hg := qb_rng hQ
  have l_0 : (0 : Int32).toInt = 0 := rfl
  have l_1 : (1 : Int32).toInt = 1 := rfl
  have l_30 : (30 : Int32).toInt = 30 := rfl
  have r_x1 := i32_rng x1
  have r_x2 := i32_rng x2
  have r_x3 := i32_rng x3
  have r_x4 := i32_rng x4
  have r_x5 := i32_rng x5
  have r_x6 := i32_rng x6
  have r_x7 := i32_rng x7
  have r_x8 := i32_rng x8
  refine ok_ite (fun c_1 => ?_) (fun c_1 => ?_)
  · simp only [fa_lt, fa_le, fa_eq] at c_1
    refine ok_nm (fun σ_2 e_2 => ?_)
    have hQ_2 := qb_r0 hQ e_2
    refine ok_bd (w_B_X12_enters_0 hN hQ_2 (by omega)) (fun _ σ_3 τ_3 hp_3 => ?_)
    have hQ_3 : QB 1 σ_3 g := hp_3.1
    have g_3 := hp_3.2
    refine ok_bd (w_B_X12_enters_0 hN hQ_3 (by omega)) (fun _ σ_4 τ_4 hp_4 => ?_)
    have hQ_4 : QB 2 σ_4 g := hp_4.1
    have g_4 := hp_4.2
    exact ok_r (qb_w hQ_4 (by omega))
  · simp only [fa_lt, fa_le, fa_eq] at c_1
    refine ok_bd (w_B_X12_sails_0 hN hQ (by omega)) (fun r_5 σ_5 τ_5 hp_5 => ?_)
    have hQ_5 : QB 16 σ_5 g := hp_5.1
    have g_5 := hp_5.2
    have r_r_5 := i32_rng r_5
    refine ok_ite (fun c_2 => ?_) (fun c_2 => ?_)
    · simp only [fa_lt, fa_le, fa_eq] at c_2
      refine ok_nm (fun v_7 e_7 => ?_)
      have u_7 : v_7.toInt = x8.toInt + (1 : Int32).toInt := by rw [e_7]; exact ti_add (by omega) (by omega)
      exact hrec_35 _ _ _ _ _ _ _ _ _ _ hQ_5 (by omega) (by omega) (by omega)
    · simp only [fa_lt, fa_le, fa_eq] at c_2
      refine ok_ite (fun c_3 => ?_) (fun c_3 => ?_)
      · simp only [fa_lt, fa_le, fa_eq] at c_3
        exact w_B_X12_waits_75 hN hrec_35 hQ_5 (by omega) (by omega) (by omega) (by omega) (by omega)
      · simp only [fa_lt, fa_le, fa_eq] at c_3
        exact w_B_X12_waits_75 hN hrec_35 hQ_5 (by omega) (by omega) (by omega) (by omega) (by omega)
theorem w_H_X12_waits_35 (hN : 4294967296 ≤ N) : ∀ (n : Nat) (σ : gI) (τ : gJ) (x1 : Int32) (x2 : Int32) (x3 : Int32) (x4 : Int32) (x5 : Int32) (x6 : Int32) (x7 : Int32) (x8 : Int32), QB 16 σ g → (0 ≤ x8.toInt) → (0 ≤ x1.toInt ∧ x1.toInt < (g 0).toInt) → (2147483647 - x8.toInt).toNat < n → okp (fun (a : Int32) σ1 τ1 => QB 16 σ1 g) (H_X12_waits_35 N n σ τ x1 x2 x3 x4 x5 x6 x7 x8) := by
  intro n
  induction n with
  | zero => intro σ τ x1 x2 x3 x4 x5 x6 x7 x8 _ _ _ hm; exact absurd hm (Nat.not_lt_zero _)
  | succ n ih =>
    intro σ τ x1 x2 x3 x4 x5 x6 x7 x8 hQ h0_35 h1 hm
    exact w_C_X12_waits_35 hN ih hQ h0_35 hm h1
set_option maxHeartbeats 2000000 in
theorem w_B_X12_waits_0 (hN : 4294967296 ≤ N) {σ : gI} {τ : gJ} {x1 : Int32} {x2 : Int32} {x3 : Int32} {x4 : Int32} (hQ : QB 16 σ g) : okp (fun (a : Int32) σ1 τ1 => QB 16 σ1 g) (B_X12_waits_0 N σ τ x1 x2 x3 x4) := by
  unfold B_X12_waits_0
  have hg := qb_rng hQ
  have l_m1 : (-1 : Int32).toInt = -1 := rfl
  have l_0 : (0 : Int32).toInt = 0 := rfl
  have l_1 : (1 : Int32).toInt = 1 := rfl
  have r_x1 := i32_rng x1
  have r_x2 := i32_rng x2
  have r_x3 := i32_rng x3
  have r_x4 := i32_rng x4
  refine ok_nm (fun σ_1 e_1 => ?_)
  have hQ_1 := qb_up hQ e_1 (by omega)
  refine ok_bd (w_B_X12_canSail_0 hN hQ_1) (fun r_2 σ_2 τ_2 hp_2 => ?_)
  obtain ⟨h9_2, g_2⟩ := hp_2
  subst h9_2
  have r_r_2 := i32_rng r_2
  refine ok_ite (fun c_1 => ?_) (fun c_1 => ?_)
  · simp only [fa_lt, fa_le, fa_eq] at c_1
    exact ok_r (qb_w hQ_1 (by omega))
  · simp only [fa_lt, fa_le, fa_eq] at c_1
    refine ok_bd (w_B_X12_thinksNow_0 hN hQ_1) (fun _ σ_4 τ_4 hp_4 => ?_)
    have hQ_4 : QB 16 σ_4 g := hp_4
    exact w_H_X12_waits_35 hN N _ _ _ _ _ _ _ _ _ _ hQ_4 (by omega) (by omega) (by omega)
set_option maxHeartbeats 2000000 in
theorem w_C_X12_soonest_47 (hN : 4294967296 ≤ N) {rec_35 : gI → gJ → Int32 → Int32 → Int32 → Int32 → Int32 → Int32 → Int32 → Option (Int32 × gI × gJ)} {n_35 : Nat} (hrec_35 : ∀ (σ : gI) (τ : gJ) (x1 : Int32) (x2 : Int32) (x3 : Int32) (x4 : Int32) (x5 : Int32) (x6 : Int32) (x7 : Int32), QB 16 σ g → (0 ≤ x7.toInt) → (2147483647 - x7.toInt).toNat < n_35 → okp (fun (a : Int32) σ1 τ1 => QB 16 σ1 g) (rec_35 σ τ x1 x2 x3 x4 x5 x6 x7)) {rec_47 : gI → gJ → Int32 → Int32 → Int32 → Int32 → Int32 → Int32 → Int32 → Int32 → Option (Int32 × gI × gJ)} {n_47 : Nat} (hrec_47 : ∀ (σ : gI) (τ : gJ) (x1 : Int32) (x2 : Int32) (x3 : Int32) (x4 : Int32) (x5 : Int32) (x6 : Int32) (x7 : Int32) (x8 : Int32), QB 16 σ g → (0 ≤ x7.toInt) → ((2147483647 - x7.toInt).toNat < n_35 + 1) → (x7.toInt < 2147483647) → (0 ≤ x8.toInt) → (x7.toInt < (g 0).toInt) → (2147483647 - x8.toInt).toNat < n_47 → okp (fun (a : Int32) σ1 τ1 => QB 16 σ1 g) (rec_47 σ τ x1 x2 x3 x4 x5 x6 x7 x8)) {σ : gI} {τ : gJ} {x1 : Int32} {x2 : Int32} {x3 : Int32} {x4 : Int32} {x5 : Int32} {x6 : Int32} {x7 : Int32} {x8 : Int32} (hQ : QB 16 σ g) (h0_35 : 0 ≤ x7.toInt) (hm_35 : (2147483647 - x7.toInt).toNat < n_35 + 1) (hlt_35 : x7.toInt < 2147483647) (h0_47 : 0 ≤ x8.toInt) (hm_47 : (2147483647 - x8.toInt).toNat < n_47 + 1) (h7 : x7.toInt < (g 0).toInt) : okp (fun (a : Int32) σ1 τ1 => QB 16 σ1 g) (C_X12_soonest_47 N rec_35 rec_47 σ τ x1 x2 x3 x4 x5 x6 x7 x8) := by
  unfold C_X12_soonest_47
  have hg := qb_rng hQ
  have l_0 : (0 : Int32).toInt = 0 := rfl
  have l_1 : (1 : Int32).toInt = 1 := rfl
  have l_30 : (30 : Int32).toInt = 30 := rfl
  have r_x1 := i32_rng x1
  have r_x2 := i32_rng x2
  have r_x3 := i32_rng x3
  have r_x4 := i32_rng x4
  have r_x5 := i32_rng x5
  have r_x6 := i32_rng x6
  have r_x7 := i32_rng x7
  have r_x8 := i32_rng x8
  refine ok_ite (fun c_1 => ?_) (fun c_1 => ?_)
  · simp only [fa_lt, fa_le, fa_eq] at c_1
    refine ok_nm (fun v_2 e_2 => ?_)
    have u_2 : v_2.toInt = x7.toInt + (1 : Int32).toInt := by rw [e_2]; exact ti_add (by omega) (by omega)
    exact hrec_35 _ _ _ _ _ _ _ _ _ hQ (by omega) (by omega)
  · simp only [fa_lt, fa_le, fa_eq] at c_1
    refine ok_ite (fun c_2 => ?_) (fun c_2 => ?_)
    · simp only [fa_lt, fa_le, fa_eq] at c_2
      refine ok_nm (fun v_4 e_4 => ?_)
      have u_4 : v_4.toInt = x7.toInt + (1 : Int32).toInt := by rw [e_4]; exact ti_add (by omega) (by omega)
      exact hrec_35 _ _ _ _ _ _ _ _ _ hQ (by omega) (by omega)
    · simp only [fa_lt, fa_le, fa_eq] at c_2
      refine ok_bd (w_B_X12_sails_0 hN hQ (by omega)) (fun r_5 σ_5 τ_5 hp_5 => ?_)
      have hQ_5 : QB 16 σ_5 g := hp_5.1
      have g_5 := hp_5.2
      have r_r_5 := i32_rng r_5
      refine ok_ite (fun c_3 => ?_) (fun c_3 => ?_)
      · simp only [fa_lt, fa_le, fa_eq] at c_3
        refine ok_nm (fun v_7 e_7 => ?_)
        have u_7 : v_7.toInt = x8.toInt + (1 : Int32).toInt := by rw [e_7]; exact ti_add (by omega) (by omega)
        exact hrec_47 _ _ _ _ _ _ _ _ _ _ hQ_5 (by omega) (by omega) (by omega) (by omega) (by omega) (by omega)
      · simp only [fa_lt, fa_le, fa_eq] at c_3
        refine ok_ite (fun c_4 => ?_) (fun c_4 => ?_)
        · simp only [fa_lt, fa_le, fa_eq] at c_4
          refine ok_nm (fun v_9 e_9 => ?_)
          have u_9 : v_9.toInt = x8.toInt + (1 : Int32).toInt := by rw [e_9]; exact ti_add (by omega) (by omega)
          exact hrec_47 _ _ _ _ _ _ _ _ _ _ hQ_5 (by omega) (by omega) (by omega) (by omega) (by omega) (by omega)
        · simp only [fa_lt, fa_le, fa_eq] at c_4
          refine ok_ite (fun c_5 => ?_) (fun c_5 => ?_)
          · simp only [fa_lt, fa_le, fa_eq] at c_5
            refine ok_nm (fun v_11 e_11 => ?_)
            have u_11 : v_11.toInt = x8.toInt + (1 : Int32).toInt := by rw [e_11]; exact ti_add (by omega) (by omega)
            exact hrec_47 _ _ _ _ _ _ _ _ _ _ hQ_5 (by omega) (by omega) (by omega) (by omega) (by omega) (by omega)
          · simp only [fa_lt, fa_le, fa_eq] at c_5
            refine ok_nm (fun v_12 e_12 => ?_)
            have u_12 : v_12.toInt = x8.toInt + (1 : Int32).toInt := by rw [e_12]; exact ti_add (by omega) (by omega)
            exact hrec_47 _ _ _ _ _ _ _ _ _ _ hQ_5 (by omega) (by omega) (by omega) (by omega) (by omega) (by omega)
theorem w_H_X12_soonest_47 (hN : 4294967296 ≤ N) {rec_35 : gI → gJ → Int32 → Int32 → Int32 → Int32 → Int32 → Int32 → Int32 → Option (Int32 × gI × gJ)} {n_35 : Nat} (hrec_35 : ∀ (σ : gI) (τ : gJ) (x1 : Int32) (x2 : Int32) (x3 : Int32) (x4 : Int32) (x5 : Int32) (x6 : Int32) (x7 : Int32), QB 16 σ g → (0 ≤ x7.toInt) → (2147483647 - x7.toInt).toNat < n_35 → okp (fun (a : Int32) σ1 τ1 => QB 16 σ1 g) (rec_35 σ τ x1 x2 x3 x4 x5 x6 x7)) : ∀ (n : Nat) (σ : gI) (τ : gJ) (x1 : Int32) (x2 : Int32) (x3 : Int32) (x4 : Int32) (x5 : Int32) (x6 : Int32) (x7 : Int32) (x8 : Int32), QB 16 σ g → (0 ≤ x7.toInt) → ((2147483647 - x7.toInt).toNat < n_35 + 1) → (x7.toInt < 2147483647) → (0 ≤ x8.toInt) → (x7.toInt < (g 0).toInt) → (2147483647 - x8.toInt).toNat < n → okp (fun (a : Int32) σ1 τ1 => QB 16 σ1 g) (H_X12_soonest_47 N rec_35 n σ τ x1 x2 x3 x4 x5 x6 x7 x8) := by
  intro n
  induction n with
  | zero => intro σ τ x1 x2 x3 x4 x5 x6 x7 x8 _ _ _ _ _ _ hm; exact absurd hm (Nat.not_lt_zero _)
  | succ n ih =>
    intro σ τ x1 x2 x3 x4 x5 x6 x7 x8 hQ h0_35 hm_35 hlt_35 h0_47 h7 hm
    exact w_C_X12_soonest_47 hN hrec_35 ih hQ h0_35 hm_35 hlt_35 h0_47 hm h7
set_option maxHeartbeats 2000000 in
theorem w_C_X12_soonest_35 (hN : 4294967296 ≤ N) {rec_35 : gI → gJ → Int32 → Int32 → Int32 → Int32 → Int32 → Int32 → Int32 → Option (Int32 × gI × gJ)} {n_35 : Nat} (hrec_35 : ∀ (σ : gI) (τ : gJ) (x1 : Int32) (x2 : Int32) (x3 : Int32) (x4 : Int32) (x5 : Int32) (x6 : Int32) (x7 : Int32), QB 16 σ g → (0 ≤ x7.toInt) → (2147483647 - x7.toInt).toNat < n_35 → okp (fun (a : Int32) σ1 τ1 => QB 16 σ1 g) (rec_35 σ τ x1 x2 x3 x4 x5 x6 x7)) {σ : gI} {τ : gJ} {x1 : Int32} {x2 : Int32} {x3 : Int32} {x4 : Int32} {x5 : Int32} {x6 : Int32} {x7 : Int32} (hQ : QB 16 σ g) (h0_35 : 0 ≤ x7.toInt) (hm_35 : (2147483647 - x7.toInt).toNat < n_35 + 1) : okp (fun (a : Int32) σ1 τ1 => QB 16 σ1 g) (C_X12_soonest_35 N rec_35 σ τ x1 x2 x3 x4 x5 x6 x7) := by
  unfold C_X12_soonest_35
  have hg := qb_rng hQ
  have l_m2 : (-2 : Int32).toInt = -2 := rfl
  have l_0 : (0 : Int32).toInt = 0 := rfl
  have l_1 : (1 : Int32).toInt = 1 := rfl
  have r_x1 := i32_rng x1
  have r_x2 := i32_rng x2
  have r_x3 := i32_rng x3
  have r_x4 := i32_rng x4
  have r_x5 := i32_rng x5
  have r_x6 := i32_rng x6
  have r_x7 := i32_rng x7
  have p_2 := qb_pl hQ
  refine ok_ite (fun c_1 => ?_) (fun c_1 => ?_)
  · simp only [fa_lt, fa_le, fa_eq] at c_1
    refine ok_ite (fun c_3 => ?_) (fun c_3 => ?_)
    · simp only [fa_lt, fa_le, fa_eq] at c_3
      refine ok_nm (fun σ_3 e_3 => ?_)
      have hQ_3 := qb_r0 hQ e_3
      refine ok_bd (w_B_X12_enters_0 hN hQ_3 (by omega)) (fun _ σ_4 τ_4 hp_4 => ?_)
      have hQ_4 : QB 1 σ_4 g := hp_4.1
      have g_4 := hp_4.2
      refine ok_bd (w_B_X12_enters_0 hN hQ_4 (by omega)) (fun _ σ_5 τ_5 hp_5 => ?_)
      have hQ_5 : QB 2 σ_5 g := hp_5.1
      have g_5 := hp_5.2
      exact ok_r (qb_w hQ_5 (by omega))
    · simp only [fa_lt, fa_le, fa_eq] at c_3
      exact ok_r (qb_w hQ (by omega))
  · simp only [fa_lt, fa_le, fa_eq] at c_1
    exact w_H_X12_soonest_47 hN hrec_35 N _ _ _ _ _ _ _ _ _ _ hQ (by omega) (by omega) (by omega) (by omega) (by omega) (by omega)
theorem w_H_X12_soonest_35 (hN : 4294967296 ≤ N) : ∀ (n : Nat) (σ : gI) (τ : gJ) (x1 : Int32) (x2 : Int32) (x3 : Int32) (x4 : Int32) (x5 : Int32) (x6 : Int32) (x7 : Int32), QB 16 σ g → (0 ≤ x7.toInt) → (2147483647 - x7.toInt).toNat < n → okp (fun (a : Int32) σ1 τ1 => QB 16 σ1 g) (H_X12_soonest_35 N n σ τ x1 x2 x3 x4 x5 x6 x7) := by
  intro n
  induction n with
  | zero => intro σ τ x1 x2 x3 x4 x5 x6 x7 _ _ hm; exact absurd hm (Nat.not_lt_zero _)
  | succ n ih =>
    intro σ τ x1 x2 x3 x4 x5 x6 x7 hQ h0_35 hm
    exact w_C_X12_soonest_35 hN ih hQ h0_35 hm
set_option maxHeartbeats 2000000 in
theorem w_B_X12_soonest_0 (hN : 4294967296 ≤ N) {σ : gI} {τ : gJ} {x1 : Int32} {x2 : Int32} {x3 : Int32} (hQ : QB 16 σ g) : okp (fun (a : Int32) σ1 τ1 => QB 16 σ1 g) (B_X12_soonest_0 N σ τ x1 x2 x3) := by
  unfold B_X12_soonest_0
  have hg := qb_rng hQ
  have l_m2 : (-2 : Int32).toInt = -2 := rfl
  have l_m1 : (-1 : Int32).toInt = -1 := rfl
  have l_0 : (0 : Int32).toInt = 0 := rfl
  have l_1 : (1 : Int32).toInt = 1 := rfl
  have r_x1 := i32_rng x1
  have r_x2 := i32_rng x2
  have r_x3 := i32_rng x3
  refine ok_nm (fun σ_1 e_1 => ?_)
  have hQ_1 := qb_up hQ e_1 (by omega)
  refine ok_bd (w_B_X12_canSail_0 hN hQ_1) (fun r_2 σ_2 τ_2 hp_2 => ?_)
  obtain ⟨h9_2, g_2⟩ := hp_2
  subst h9_2
  have r_r_2 := i32_rng r_2
  refine ok_ite (fun c_1 => ?_) (fun c_1 => ?_)
  · simp only [fa_lt, fa_le, fa_eq] at c_1
    exact ok_r (qb_w hQ_1 (by omega))
  · simp only [fa_lt, fa_le, fa_eq] at c_1
    refine ok_bd (w_B_X12_thinksNow_0 hN hQ_1) (fun _ σ_4 τ_4 hp_4 => ?_)
    have hQ_4 : QB 16 σ_4 g := hp_4
    exact w_H_X12_soonest_35 hN N _ _ _ _ _ _ _ _ _ hQ_4 (by omega) (by omega)
set_option maxHeartbeats 2000000 in
theorem w_B_X12_basin_89 (hN : 4294967296 ≤ N) {rec_34 : gI → gJ → Int32 → Int32 → Int32 → Int32 → Int32 → Int32 → Int32 → Option (Int32 × gI × gJ)} {n_34 : Nat} (hrec_34 : ∀ (σ : gI) (τ : gJ) (x1 : Int32) (x2 : Int32) (x3 : Int32) (x4 : Int32) (x5 : Int32) (x6 : Int32) (x7 : Int32), QB 16 σ g → (0 ≤ x7.toInt) → (2147483647 - x7.toInt).toNat < n_34 → okp (fun (a : Int32) σ1 τ1 => QB 16 σ1 g) (rec_34 σ τ x1 x2 x3 x4 x5 x6 x7)) {σ : gI} {τ : gJ} {x1 : Int32} {x2 : Int32} {x3 : Int32} {x4 : Int32} {x6 : Int32} {x7 : Int32} {y0 : Int32} {y1 : Int32} (hQ : QB 16 σ g) (h0_34 : 0 ≤ x7.toInt) (hm_34 : (2147483647 - x7.toInt).toNat < n_34 + 1) (hlt_34 : x7.toInt < 2147483647) : okp (fun (a : Int32) σ1 τ1 => QB 16 σ1 g) (B_X12_basin_89 N rec_34 σ τ x1 x2 x3 x4 x6 x7 y0 y1) := by
  unfold B_X12_basin_89
  have hg := qb_rng hQ
  have l_0 : (0 : Int32).toInt = 0 := rfl
  have l_1 : (1 : Int32).toInt = 1 := rfl
  have l_2 : (2 : Int32).toInt = 2 := rfl
  have l_31 : (31 : Int32).toInt = 31 := rfl
  have r_x1 := i32_rng x1
  have r_x2 := i32_rng x2
  have r_x3 := i32_rng x3
  have r_x4 := i32_rng x4
  have r_x6 := i32_rng x6
  have r_x7 := i32_rng x7
  have r_y0 := i32_rng y0
  have r_y1 := i32_rng y1
  refine ok_nm (fun v_1 e_1 => ?_)
  refine ok_ite (fun c_1 => ?_) (fun c_1 => ?_)
  · simp only [fa_lt, fa_le, fa_eq] at c_1
    refine ok_nm (fun v_5 e_5 => ?_)
    refine ok_nm (fun v_6 e_6 => ?_)
    have u_6 : v_6.toInt = x7.toInt + (1 : Int32).toInt := by rw [e_6]; exact ti_add (by omega) (by omega)
    exact hrec_34 _ _ _ _ _ _ _ _ _ hQ (by omega) (by omega)
  · simp only [fa_lt, fa_le, fa_eq] at c_1
    refine ok_nm (fun v_3 e_3 => ?_)
    refine ok_nm (fun v_4 e_4 => ?_)
    have u_4 : v_4.toInt = x7.toInt + (1 : Int32).toInt := by rw [e_4]; exact ti_add (by omega) (by omega)
    exact hrec_34 _ _ _ _ _ _ _ _ _ hQ (by omega) (by omega)
set_option maxHeartbeats 2000000 in
theorem w_C_X12_basin_34 (hN : 4294967296 ≤ N) {rec_34 : gI → gJ → Int32 → Int32 → Int32 → Int32 → Int32 → Int32 → Int32 → Option (Int32 × gI × gJ)} {n_34 : Nat} (hrec_34 : ∀ (σ : gI) (τ : gJ) (x1 : Int32) (x2 : Int32) (x3 : Int32) (x4 : Int32) (x5 : Int32) (x6 : Int32) (x7 : Int32), QB 16 σ g → (0 ≤ x7.toInt) → (2147483647 - x7.toInt).toNat < n_34 → okp (fun (a : Int32) σ1 τ1 => QB 16 σ1 g) (rec_34 σ τ x1 x2 x3 x4 x5 x6 x7)) {σ : gI} {τ : gJ} {x1 : Int32} {x2 : Int32} {x3 : Int32} {x4 : Int32} {x5 : Int32} {x6 : Int32} {x7 : Int32} (hQ : QB 16 σ g) (h0_34 : 0 ≤ x7.toInt) (hm_34 : (2147483647 - x7.toInt).toNat < n_34 + 1) : okp (fun (a : Int32) σ1 τ1 => QB 16 σ1 g) (C_X12_basin_34 N rec_34 σ τ x1 x2 x3 x4 x5 x6 x7) := by
  unfold C_X12_basin_34
  have hg := qb_rng hQ
  have l_0 : (0 : Int32).toInt = 0 := rfl
  have l_1 : (1 : Int32).toInt = 1 := rfl
  have l_4 : (4 : Int32).toInt = 4 := rfl
  have l_31 : (31 : Int32).toInt = 31 := rfl
  have l_224 : (224 : Int32).toInt = 224 := rfl
  have r_x1 := i32_rng x1
  have r_x2 := i32_rng x2
  have r_x3 := i32_rng x3
  have r_x4 := i32_rng x4
  have r_x5 := i32_rng x5
  have r_x6 := i32_rng x6
  have r_x7 := i32_rng x7
  have p_2 := qb_pl hQ
  refine ok_ite (fun c_1 => ?_) (fun c_1 => ?_)
  · simp only [fa_lt, fa_le, fa_eq] at c_1
    refine ok_nm (fun σ_2 e_2 => ?_)
    have hQ_2 := qb_r0 hQ e_2
    refine ok_bd (w_B_X12_enters_0 hN hQ_2 (by omega)) (fun _ σ_3 τ_3 hp_3 => ?_)
    have hQ_3 : QB 1 σ_3 g := hp_3.1
    have g_3 := hp_3.2
    refine ok_bd (w_B_X12_enters_0 hN hQ_3 (by omega)) (fun _ σ_4 τ_4 hp_4 => ?_)
    have hQ_4 : QB 2 σ_4 g := hp_4.1
    have g_4 := hp_4.2
    exact ok_r (qb_w hQ_4 (by omega))
  · simp only [fa_lt, fa_le, fa_eq] at c_1
    refine ok_bd (w_B_X12_sails_0 hN hQ (by omega)) (fun r_5 σ_5 τ_5 hp_5 => ?_)
    have hQ_5 : QB 16 σ_5 g := hp_5.1
    have g_5 := hp_5.2
    have r_r_5 := i32_rng r_5
    refine ok_ite (fun c_3 => ?_) (fun c_3 => ?_)
    · simp only [fa_lt, fa_le, fa_eq] at c_3
      refine ok_nm (fun v_7 e_7 => ?_)
      refine ok_ite (fun c_4 => ?_) (fun c_4 => ?_)
      · simp only [fa_lt, fa_le, fa_eq] at c_4
        exact w_B_X12_basin_89 hN hrec_34 hQ_5 (by omega) (by omega) (by omega)
      · simp only [fa_lt, fa_le, fa_eq] at c_4
        exact w_B_X12_basin_89 hN hrec_34 hQ_5 (by omega) (by omega) (by omega)
    · simp only [fa_lt, fa_le, fa_eq] at c_3
      refine ok_nm (fun v_9 e_9 => ?_)
      refine ok_ite (fun c_5 => ?_) (fun c_5 => ?_)
      · simp only [fa_lt, fa_le, fa_eq] at c_5
        exact w_B_X12_basin_89 hN hrec_34 hQ_5 (by omega) (by omega) (by omega)
      · simp only [fa_lt, fa_le, fa_eq] at c_5
        exact w_B_X12_basin_89 hN hrec_34 hQ_5 (by omega) (by omega) (by omega)
theorem w_H_X12_basin_34 (hN : 4294967296 ≤ N) : ∀ (n : Nat) (σ : gI) (τ : gJ) (x1 : Int32) (x2 : Int32) (x3 : Int32) (x4 : Int32) (x5 : Int32) (x6 : Int32) (x7 : Int32), QB 16 σ g → (0 ≤ x7.toInt) → (2147483647 - x7.toInt).toNat < n → okp (fun (a : Int32) σ1 τ1 => QB 16 σ1 g) (H_X12_basin_34 N n σ τ x1 x2 x3 x4 x5 x6 x7) := by
  intro n
  induction n with
  | zero => intro σ τ x1 x2 x3 x4 x5 x6 x7 _ _ hm; exact absurd hm (Nat.not_lt_zero _)
  | succ n ih =>
    intro σ τ x1 x2 x3 x4 x5 x6 x7 hQ h0_34 hm
    exact w_C_X12_basin_34 hN ih hQ h0_34 hm
set_option maxHeartbeats 2000000 in
theorem w_B_X12_basin_0 (hN : 4294967296 ≤ N) {σ : gI} {τ : gJ} {x1 : Int32} {x2 : Int32} {x3 : Int32} (hQ : QB 16 σ g) : okp (fun (a : Int32) σ1 τ1 => QB 16 σ1 g) (B_X12_basin_0 N σ τ x1 x2 x3) := by
  unfold B_X12_basin_0
  have hg := qb_rng hQ
  have l_m1 : (-1 : Int32).toInt = -1 := rfl
  have l_0 : (0 : Int32).toInt = 0 := rfl
  have l_1 : (1 : Int32).toInt = 1 := rfl
  have r_x1 := i32_rng x1
  have r_x2 := i32_rng x2
  have r_x3 := i32_rng x3
  refine ok_nm (fun σ_1 e_1 => ?_)
  have hQ_1 := qb_up hQ e_1 (by omega)
  refine ok_bd (w_B_X12_canSail_0 hN hQ_1) (fun r_2 σ_2 τ_2 hp_2 => ?_)
  obtain ⟨h9_2, g_2⟩ := hp_2
  subst h9_2
  have r_r_2 := i32_rng r_2
  refine ok_ite (fun c_1 => ?_) (fun c_1 => ?_)
  · simp only [fa_lt, fa_le, fa_eq] at c_1
    exact ok_r (qb_w hQ_1 (by omega))
  · simp only [fa_lt, fa_le, fa_eq] at c_1
    refine ok_bd (w_B_X12_thinksNow_0 hN hQ_1) (fun _ σ_4 τ_4 hp_4 => ?_)
    have hQ_4 : QB 16 σ_4 g := hp_4
    exact w_H_X12_basin_34 hN N _ _ _ _ _ _ _ _ _ hQ_4 (by omega) (by omega)
set_option maxHeartbeats 2000000 in
theorem w_C_X12_ways_41 (hN : 4294967296 ≤ N) {rec_41 : gI → gJ → Int32 → Int32 → Int32 → Int32 → Int32 → Int32 → Int32 → Int32 → Int32 → Option (Int32 × gI × gJ)} {n_41 : Nat} (hrec_41 : ∀ (σ : gI) (τ : gJ) (x1 : Int32) (x2 : Int32) (x3 : Int32) (x4 : Int32) (x5 : Int32) (x6 : Int32) (x7 : Int32) (x8 : Int32) (x9 : Int32), QB 16 σ g → (0 ≤ x9.toInt) → (x5.toInt < 4096) → (0 ≤ x1.toInt ∧ x1.toInt < (g 0).toInt) → (2147483647 - x9.toInt).toNat < n_41 → okp (fun (a : Int32) σ1 τ1 => QB 16 σ1 g) (rec_41 σ τ x1 x2 x3 x4 x5 x6 x7 x8 x9)) {σ : gI} {τ : gJ} {x1 : Int32} {x2 : Int32} {x3 : Int32} {x4 : Int32} {x5 : Int32} {x6 : Int32} {x7 : Int32} {x8 : Int32} {x9 : Int32} (hQ : QB 16 σ g) (h0_41 : 0 ≤ x9.toInt) (hm_41 : (2147483647 - x9.toInt).toNat < n_41 + 1) (ha : x5.toInt < 4096) (h1 : 0 ≤ x1.toInt ∧ x1.toInt < (g 0).toInt) : okp (fun (a : Int32) σ1 τ1 => QB 16 σ1 g) (C_X12_ways_41 N rec_41 σ τ x1 x2 x3 x4 x5 x6 x7 x8 x9) := by
  unfold C_X12_ways_41
  have hg := qb_rng hQ
  have l_m1 : (-1 : Int32).toInt = -1 := rfl
  have l_0 : (0 : Int32).toInt = 0 := rfl
  have l_1 : (1 : Int32).toInt = 1 := rfl
  have r_x1 := i32_rng x1
  have r_x2 := i32_rng x2
  have r_x3 := i32_rng x3
  have r_x4 := i32_rng x4
  have r_x5 := i32_rng x5
  have r_x6 := i32_rng x6
  have r_x7 := i32_rng x7
  have r_x8 := i32_rng x8
  have r_x9 := i32_rng x9
  refine ok_ite (fun c_1 => ?_) (fun c_1 => ?_)
  · simp only [fa_lt, fa_le, fa_eq] at c_1
    refine ok_nm (fun σ_2 e_2 => ?_)
    have hQ_2 := qb_r0 hQ e_2
    refine ok_bd (w_B_X12_enters_0 hN hQ_2 (by omega)) (fun _ σ_3 τ_3 hp_3 => ?_)
    have hQ_3 : QB 1 σ_3 g := hp_3.1
    have g_3 := hp_3.2
    refine ok_bd (w_B_X12_enters_0 hN hQ_3 (by omega)) (fun _ σ_4 τ_4 hp_4 => ?_)
    have hQ_4 : QB 2 σ_4 g := hp_4.1
    have g_4 := hp_4.2
    exact ok_r (qb_w hQ_4 (by omega))
  · simp only [fa_lt, fa_le, fa_eq] at c_1
    refine ok_ite (fun c_2 => ?_) (fun c_2 => ?_)
    · refine ok_nm (fun σ_7 e_7 => ?_)
      have hQ_7 := qb_up hQ e_7 (by omega)
      refine ok_bd (w_B_X12_sails_0 hN hQ_7 (by omega)) (fun r_8 σ_8 τ_8 hp_8 => ?_)
      have hQ_8 : QB 16 σ_8 g := hp_8.1
      have g_8 := hp_8.2
      have r_r_8 := i32_rng r_8
      refine ok_ite (fun c_3 => ?_) (fun c_3 => ?_)
      · simp only [fa_lt, fa_le, fa_eq] at c_3
        refine ok_nm (fun v_10 e_10 => ?_)
        have u_10 : v_10.toInt = x9.toInt + (1 : Int32).toInt := by rw [e_10]; exact ti_add (by omega) (by omega)
        exact hrec_41 _ _ _ _ _ _ _ _ _ _ _ hQ_8 (by omega) (by omega) (by omega) (by omega)
      · simp only [fa_lt, fa_le, fa_eq] at c_3
        refine ok_ite (fun c_4 => ?_) (fun c_4 => ?_)
        · simp only [fa_lt, fa_le, fa_eq] at c_4
          refine ok_nm (fun v_12 e_12 => ?_)
          refine ok_nm (fun v_13 e_13 => ?_)
          have u_13 : v_13.toInt = x9.toInt + (1 : Int32).toInt := by rw [e_13]; exact ti_add (by omega) (by omega)
          exact hrec_41 _ _ _ _ _ _ _ _ _ _ _ hQ_8 (by omega) (by omega) (by omega) (by omega)
        · simp only [fa_lt, fa_le, fa_eq] at c_4
          refine ok_nm (fun v_14 e_14 => ?_)
          refine ok_nm (fun v_15 e_15 => ?_)
          have u_15 : v_15.toInt = x9.toInt + (1 : Int32).toInt := by rw [e_15]; exact ti_add (by omega) (by omega)
          exact hrec_41 _ _ _ _ _ _ _ _ _ _ _ hQ_8 (by omega) (by omega) (by omega) (by omega)
    · refine ok_nm (fun v_6 e_6 => ?_)
      have u_6 : v_6.toInt = x9.toInt + (1 : Int32).toInt := by rw [e_6]; exact ti_add (by omega) (by omega)
      exact hrec_41 _ _ _ _ _ _ _ _ _ _ _ hQ (by omega) (by omega) (by omega) (by omega)
theorem w_H_X12_ways_41 (hN : 4294967296 ≤ N) : ∀ (n : Nat) (σ : gI) (τ : gJ) (x1 : Int32) (x2 : Int32) (x3 : Int32) (x4 : Int32) (x5 : Int32) (x6 : Int32) (x7 : Int32) (x8 : Int32) (x9 : Int32), QB 16 σ g → (0 ≤ x9.toInt) → (x5.toInt < 4096) → (0 ≤ x1.toInt ∧ x1.toInt < (g 0).toInt) → (2147483647 - x9.toInt).toNat < n → okp (fun (a : Int32) σ1 τ1 => QB 16 σ1 g) (H_X12_ways_41 N n σ τ x1 x2 x3 x4 x5 x6 x7 x8 x9) := by
  intro n
  induction n with
  | zero => intro σ τ x1 x2 x3 x4 x5 x6 x7 x8 x9 _ _ _ _ hm; exact absurd hm (Nat.not_lt_zero _)
  | succ n ih =>
    intro σ τ x1 x2 x3 x4 x5 x6 x7 x8 x9 hQ h0_41 ha h1 hm
    exact w_C_X12_ways_41 hN ih hQ h0_41 hm ha h1
set_option maxHeartbeats 2000000 in
theorem w_B_X12_ways_0 (hN : 4294967296 ≤ N) {σ : gI} {τ : gJ} {x1 : Int32} {x2 : Int32} {x3 : Int32} {x4 : Int32} (hQ : QB 16 σ g) : okp (fun (a : Int32) σ1 τ1 => QB 16 σ1 g) (B_X12_ways_0 N σ τ x1 x2 x3 x4) := by
  unfold B_X12_ways_0
  have hg := qb_rng hQ
  have l_m1 : (-1 : Int32).toInt = -1 := rfl
  have l_0 : (0 : Int32).toInt = 0 := rfl
  have l_1 : (1 : Int32).toInt = 1 := rfl
  have r_x1 := i32_rng x1
  have r_x2 := i32_rng x2
  have r_x3 := i32_rng x3
  have r_x4 := i32_rng x4
  refine ok_nm (fun σ_1 e_1 => ?_)
  have hQ_1 := qb_up hQ e_1 (by omega)
  refine ok_bd (w_B_X12_canSail_0 hN hQ_1) (fun r_2 σ_2 τ_2 hp_2 => ?_)
  obtain ⟨h9_2, g_2⟩ := hp_2
  subst h9_2
  have r_r_2 := i32_rng r_2
  refine ok_ite (fun c_1 => ?_) (fun c_1 => ?_)
  · simp only [fa_lt, fa_le, fa_eq] at c_1
    exact ok_r (qb_w hQ_1 (by omega))
  · simp only [fa_lt, fa_le, fa_eq] at c_1
    refine ok_bd (w_B_X12_thinksNow_0 hN hQ_1) (fun _ σ_4 τ_4 hp_4 => ?_)
    have hQ_4 : QB 16 σ_4 g := hp_4
    refine ok_bd (w_B_X12_forks_0 hN hQ_4) (fun r_5 σ_5 τ_5 hp_5 => ?_)
    obtain ⟨h9_5, g_5⟩ := hp_5
    subst h9_5
    have r_r_5 := i32_rng r_5
    exact w_H_X12_ways_41 hN N _ _ _ _ _ _ _ _ _ _ _ hQ_4 (by omega) (by omega) (by omega) (by omega)
set_option maxHeartbeats 2000000 in
theorem w_B_X12_saves_50 (hN : 4294967296 ≤ N) {rec_15 : gI → gJ → Int32 → Int32 → Int32 → Int32 → Int32 → Int32 → Int32 → Option (Int32 × gI × gJ)} {n_15 : Nat} (hrec_15 : ∀ (σ : gI) (τ : gJ) (x1 : Int32) (x2 : Int32) (x3 : Int32) (x4 : Int32) (x5 : Int32) (x6 : Int32) (x7 : Int32), QB 16 σ g → (0 ≤ x7.toInt) → (x4.toInt < 4096) → (0 ≤ x3.toInt ∧ x3.toInt < 6) → (2147483647 - x7.toInt).toNat < n_15 → okp (fun (a : Int32) σ1 τ1 => QB 16 σ1 g) (rec_15 σ τ x1 x2 x3 x4 x5 x6 x7)) {σ : gI} {τ : gJ} {x1 : Int32} {x2 : Int32} {x3 : Int32} {x4 : Int32} {x5 : Int32} {x6 : Int32} {x7 : Int32} (hQ : QB 16 σ g) (h0_15 : 0 ≤ x7.toInt) (hm_15 : (2147483647 - x7.toInt).toNat < n_15 + 1) (hlt_15 : x7.toInt < 2147483647) (ha : x4.toInt < 4096) (h3 : 0 ≤ x3.toInt ∧ x3.toInt < 6) (h7 : x7.toInt ≤ x4.toInt) : okp (fun (a : Int32) σ1 τ1 => QB 16 σ1 g) (B_X12_saves_50 N rec_15 σ τ x1 x2 x3 x4 x5 x6 x7) := by
  unfold B_X12_saves_50
  have hg := qb_rng hQ
  have l_0 : (0 : Int32).toInt = 0 := rfl
  have l_1 : (1 : Int32).toInt = 1 := rfl
  have l_7 : (7 : Int32).toInt = 7 := rfl
  have l_45 : (45 : Int32).toInt = 45 := rfl
  have l_207 : (207 : Int32).toInt = 207 := rfl
  have r_x1 := i32_rng x1
  have r_x2 := i32_rng x2
  have r_x3 := i32_rng x3
  have r_x4 := i32_rng x4
  have r_x5 := i32_rng x5
  have r_x6 := i32_rng x6
  have r_x7 := i32_rng x7
  refine ok_bd (w_B_X12_savedAfter_0 hN hQ) (fun r_1 σ_1 τ_1 hp_1 => ?_)
  have hQ_1 : QB 16 σ_1 g := hp_1
  have r_r_1 := i32_rng r_1
  refine ok_ite (fun c_1 => ?_) (fun c_1 => ?_)
  · simp only [fa_lt, fa_le, fa_eq] at c_1
    refine ok_nm (fun v_3 e_3 => ?_)
    have u_3 : v_3.toInt = x7.toInt + (1 : Int32).toInt := by rw [e_3]; exact ti_add (by omega) (by omega)
    exact hrec_15 _ _ _ _ _ _ _ _ _ hQ_1 (by omega) (by omega) (by omega) (by omega)
  · simp only [fa_lt, fa_le, fa_eq] at c_1
    refine ok_ite (fun c_2 => ?_) (fun c_2 => ?_)
    · simp only [fa_lt, fa_le, fa_eq] at c_2
      refine ok_nm (fun v_5 e_5 => ?_)
      have u_5 : v_5.toInt = x7.toInt + (1 : Int32).toInt := by rw [e_5]; exact ti_add (by omega) (by omega)
      exact hrec_15 _ _ _ _ _ _ _ _ _ hQ_1 (by omega) (by omega) (by omega) (by omega)
    · simp only [fa_lt, fa_le, fa_eq] at c_2
      have i_6 := ti_7k (x := x3) (k := 0) (by omega) (by omega)
      refine ok_ck ⟨by omega, by omega⟩ (fun j_6 hj_6 lj_6 => ?_)
      refine ok_ite (fun c_3 => ?_) (fun c_3 => ?_)
      · simp only [fa_lt, fa_le, fa_eq] at c_3
        refine ok_nm (fun v_9 e_9 => ?_)
        have u_9 : v_9.toInt = x7.toInt + (1 : Int32).toInt := by rw [e_9]; exact ti_add (by omega) (by omega)
        exact hrec_15 _ _ _ _ _ _ _ _ _ hQ_1 (by omega) (by omega) (by omega) (by omega)
      · simp only [fa_lt, fa_le, fa_eq] at c_3
        refine ok_nm (fun v_8 e_8 => ?_)
        have u_8 : v_8.toInt = x7.toInt + (1 : Int32).toInt := by rw [e_8]; exact ti_add (by omega) (by omega)
        exact hrec_15 _ _ _ _ _ _ _ _ _ hQ_1 (by omega) (by omega) (by omega) (by omega)
set_option maxHeartbeats 2000000 in
theorem w_C_X12_saves_15 (hN : 4294967296 ≤ N) {rec_15 : gI → gJ → Int32 → Int32 → Int32 → Int32 → Int32 → Int32 → Int32 → Option (Int32 × gI × gJ)} {n_15 : Nat} (hrec_15 : ∀ (σ : gI) (τ : gJ) (x1 : Int32) (x2 : Int32) (x3 : Int32) (x4 : Int32) (x5 : Int32) (x6 : Int32) (x7 : Int32), QB 16 σ g → (0 ≤ x7.toInt) → (x4.toInt < 4096) → (0 ≤ x3.toInt ∧ x3.toInt < 6) → (2147483647 - x7.toInt).toNat < n_15 → okp (fun (a : Int32) σ1 τ1 => QB 16 σ1 g) (rec_15 σ τ x1 x2 x3 x4 x5 x6 x7)) {σ : gI} {τ : gJ} {x1 : Int32} {x2 : Int32} {x3 : Int32} {x4 : Int32} {x5 : Int32} {x6 : Int32} {x7 : Int32} (hQ : QB 16 σ g) (h0_15 : 0 ≤ x7.toInt) (hm_15 : (2147483647 - x7.toInt).toNat < n_15 + 1) (ha : x4.toInt < 4096) (h3 : 0 ≤ x3.toInt ∧ x3.toInt < 6) : okp (fun (a : Int32) σ1 τ1 => QB 16 σ1 g) (C_X12_saves_15 N rec_15 σ τ x1 x2 x3 x4 x5 x6 x7) := by
  unfold C_X12_saves_15
  have hg := qb_rng hQ
  have l_m2 : (-2 : Int32).toInt = -2 := rfl
  have l_m1 : (-1 : Int32).toInt = -1 := rfl
  have l_0 : (0 : Int32).toInt = 0 := rfl
  have l_1 : (1 : Int32).toInt = 1 := rfl
  have r_x1 := i32_rng x1
  have r_x2 := i32_rng x2
  have r_x3 := i32_rng x3
  have r_x4 := i32_rng x4
  have r_x5 := i32_rng x5
  have r_x6 := i32_rng x6
  have r_x7 := i32_rng x7
  refine ok_ite (fun c_1 => ?_) (fun c_1 => ?_)
  · simp only [fa_lt, fa_le, fa_eq] at c_1
    refine ok_ite (fun c_2 => ?_) (fun c_2 => ?_)
    · simp only [fa_lt, fa_le, fa_eq] at c_2
      refine ok_nm (fun σ_3 e_3 => ?_)
      have hQ_3 := qb_r0 hQ e_3
      refine ok_bd (w_B_X12_enters_0 hN hQ_3 (by omega)) (fun _ σ_4 τ_4 hp_4 => ?_)
      have hQ_4 : QB 1 σ_4 g := hp_4.1
      have g_4 := hp_4.2
      refine ok_bd (w_B_X12_enters_0 hN hQ_4 (by omega)) (fun _ σ_5 τ_5 hp_5 => ?_)
      have hQ_5 : QB 2 σ_5 g := hp_5.1
      have g_5 := hp_5.2
      refine ok_bd (w_B_J6_bitCount_0f7a4_0 hN) (fun r_6 σ_6 τ_6 hp_6 => ?_)
      obtain ⟨h9_6, g_6⟩ := hp_6
      subst h9_6
      have r_r_6 := i32_rng r_6
      exact ok_r (qb_w hQ_5 (by omega))
    · simp only [fa_lt, fa_le, fa_eq] at c_2
      exact ok_r (qb_w hQ (by omega))
  · simp only [fa_lt, fa_le, fa_eq] at c_1
    refine ok_ite (fun c_3 => ?_) (fun c_3 => ?_)
    · refine ok_ite (fun c_4 => ?_) (fun c_4 => ?_)
      · simp only [fa_lt, fa_le, fa_eq] at c_4
        exact w_B_X12_saves_50 hN hrec_15 hQ (by omega) (by omega) (by omega) (by omega) (by omega) (by omega)
      · simp only [fa_lt, fa_le, fa_eq] at c_4
        refine ok_bd (w_B_J6_bitCount_0f7a4_0 hN) (fun r_10 σ_10 τ_10 hp_10 => ?_)
        obtain ⟨h9_10, g_10⟩ := hp_10
        subst h9_10
        have r_r_10 := i32_rng r_10
        refine ok_bd (w_B_J6_bitCount_0f7a4_0 hN) (fun r_11 σ_11 τ_11 hp_11 => ?_)
        obtain ⟨h9_11, g_11⟩ := hp_11
        subst h9_11
        have r_r_11 := i32_rng r_11
        refine ok_ite (fun c_5 => ?_) (fun c_5 => ?_)
        · simp only [fa_lt, fa_le, fa_eq] at c_5
          refine ok_nm (fun v_13 e_13 => ?_)
          have u_13 : v_13.toInt = x7.toInt + (1 : Int32).toInt := by rw [e_13]; exact ti_add (by omega) (by omega)
          exact hrec_15 _ _ _ _ _ _ _ _ _ hQ (by omega) (by omega) (by omega) (by omega)
        · simp only [fa_lt, fa_le, fa_eq] at c_5
          exact w_B_X12_saves_50 hN hrec_15 hQ (by omega) (by omega) (by omega) (by omega) (by omega) (by omega)
    · refine ok_nm (fun v_8 e_8 => ?_)
      have u_8 : v_8.toInt = x7.toInt + (1 : Int32).toInt := by rw [e_8]; exact ti_add (by omega) (by omega)
      exact hrec_15 _ _ _ _ _ _ _ _ _ hQ (by omega) (by omega) (by omega) (by omega)
theorem w_H_X12_saves_15 (hN : 4294967296 ≤ N) : ∀ (n : Nat) (σ : gI) (τ : gJ) (x1 : Int32) (x2 : Int32) (x3 : Int32) (x4 : Int32) (x5 : Int32) (x6 : Int32) (x7 : Int32), QB 16 σ g → (0 ≤ x7.toInt) → (x4.toInt < 4096) → (0 ≤ x3.toInt ∧ x3.toInt < 6) → (2147483647 - x7.toInt).toNat < n → okp (fun (a : Int32) σ1 τ1 => QB 16 σ1 g) (H_X12_saves_15 N n σ τ x1 x2 x3 x4 x5 x6 x7) := by
  intro n
  induction n with
  | zero => intro σ τ x1 x2 x3 x4 x5 x6 x7 _ _ _ _ hm; exact absurd hm (Nat.not_lt_zero _)
  | succ n ih =>
    intro σ τ x1 x2 x3 x4 x5 x6 x7 hQ h0_15 ha h3 hm
    exact w_C_X12_saves_15 hN ih hQ h0_15 hm ha h3
set_option maxHeartbeats 2000000 in
theorem w_B_X12_saves_0 (hN : 4294967296 ≤ N) {σ : gI} {τ : gJ} {x1 : Int32} {x2 : Int32} {x3 : Int32} (hQ : QB 16 σ g) (h3 : 0 ≤ x3.toInt ∧ x3.toInt < 6) : okp (fun (a : Int32) σ1 τ1 => QB 16 σ1 g) (B_X12_saves_0 N σ τ x1 x2 x3) := by
  unfold B_X12_saves_0
  have hg := qb_rng hQ
  have l_m1 : (-1 : Int32).toInt = -1 := rfl
  have l_0 : (0 : Int32).toInt = 0 := rfl
  have l_1 : (1 : Int32).toInt = 1 := rfl
  have r_x1 := i32_rng x1
  have r_x2 := i32_rng x2
  have r_x3 := i32_rng x3
  refine ok_bd (w_B_X12_forks_0 hN hQ) (fun r_1 σ_1 τ_1 hp_1 => ?_)
  obtain ⟨h9_1, g_1⟩ := hp_1
  subst h9_1
  have r_r_1 := i32_rng r_1
  exact w_H_X12_saves_15 hN N _ _ _ _ _ _ _ _ _ hQ (by omega) (by omega) (by omega) (by omega)
set_option maxHeartbeats 2000000 in
theorem w_B_X12_save_0 (hN : 4294967296 ≤ N) {σ : gI} {τ : gJ} {x1 : Int32} (hQ : QB 16 σ g) : okp (fun (a : Int32) σ1 τ1 => QB 16 σ1 g) (B_X12_save_0 N σ τ x1) := by
  unfold B_X12_save_0
  have hg := qb_rng hQ
  have l_m1 : (-1 : Int32).toInt = -1 := rfl
  have l_0 : (0 : Int32).toInt = 0 := rfl
  have l_1 : (1 : Int32).toInt = 1 := rfl
  have l_31 : (31 : Int32).toInt = 31 := rfl
  have l_44 : (44 : Int32).toInt = 44 := rfl
  have l_206 : (206 : Int32).toInt = 206 := rfl
  have r_x1 := i32_rng x1
  refine ok_nm (fun σ_1 e_1 => ?_)
  have hQ_1 := qb_up hQ e_1 (by omega)
  have p_1 := qb_M hQ_1
  refine ok_bd (w_B_X12_in_0 hN) (fun r_2 σ_2 τ_2 hp_2 => ?_)
  obtain ⟨h9_2, g_2⟩ := hp_2
  subst h9_2
  have k_2 := g_2.2; simp only [Int32.toInt_toInt64, show (0 : Int64).toInt = 0 from rfl] at k_2
  have r_r_2 := i32_rng r_2
  refine ok_ite (fun c_2 => ?_) (fun c_2 => ?_)
  · simp only [fa_lt, fa_le, fa_eq] at c_2
    exact ok_r (qb_w hQ_1 (by omega))
  · simp only [fa_lt, fa_le, fa_eq] at c_2
    refine ok_bd (w_B_X12_saves_0 hN hQ_1 (by omega)) (fun r_4 σ_4 τ_4 hp_4 => ?_)
    have hQ_4 : QB 16 σ_4 g := hp_4
    have r_r_4 := i32_rng r_4
    exact ok_r (qb_w hQ_4 (by omega))
set_option maxHeartbeats 2000000 in
theorem w_B_X12_steer_0 (hN : 4294967296 ≤ N) {σ : gI} {τ : gJ} {x1 : Int32} {x2 : Int32} (hQ : QB 16 σ g) : okp (fun (a : Int32) σ1 τ1 => QB 16 σ1 g) (B_X12_steer_0 N σ τ x1 x2) := by
  unfold B_X12_steer_0
  have hg := qb_rng hQ
  have l_m1 : (-1 : Int32).toInt = -1 := rfl
  have l_0 : (0 : Int32).toInt = 0 := rfl
  have l_1 : (1 : Int32).toInt = 1 := rfl
  have l_31 : (31 : Int32).toInt = 31 := rfl
  have r_x1 := i32_rng x1
  have r_x2 := i32_rng x2
  refine ok_nm (fun σ_1 e_1 => ?_)
  have hQ_1 := qb_up hQ e_1 (by omega)
  refine ok_bd (w_B_X12_isThing_0 hN hQ_1) (fun r_2 σ_2 τ_2 hp_2 => ?_)
  obtain ⟨h9_2, g_2⟩ := hp_2
  subst h9_2
  have r_r_2 := i32_rng r_2
  refine ok_ite (fun c_1 => ?_) (fun c_1 => ?_)
  · simp only [fa_lt, fa_le, fa_eq] at c_1
    exact ok_r (qb_w hQ_1 (by omega))
  · simp only [fa_lt, fa_le, fa_eq] at c_1
    refine ok_bd (w_B_X12_isKitchen_0 hN hQ_1) (fun r_4 σ_4 τ_4 hp_4 => ?_)
    obtain ⟨h9_4, g_4⟩ := hp_4
    subst h9_4
    have r_r_4 := i32_rng r_4
    refine ok_ite (fun c_2 => ?_) (fun c_2 => ?_)
    · simp only [fa_lt, fa_le, fa_eq] at c_2
      exact ok_r (qb_w hQ_1 (by omega))
    · simp only [fa_lt, fa_le, fa_eq] at c_2
      refine ok_bd (w_B_X12_saves_0 hN hQ_1 (by omega)) (fun r_6 σ_6 τ_6 hp_6 => ?_)
      have hQ_6 : QB 16 σ_6 g := hp_6
      have r_r_6 := i32_rng r_6
      exact ok_r (qb_w hQ_6 (by omega))
set_option maxHeartbeats 2000000 in
theorem w_B_X12_laysFits_88 (hN : 4294967296 ≤ N) {rec_9 : gI → gJ → Int32 → Int32 → Int32 → Option (Int32 × gI × gJ)} {n_9 : Nat} (hrec_9 : ∀ (σ : gI) (τ : gJ) (x1 : Int32) (x2 : Int32) (x3 : Int32), QB 16 σ g → (0 ≤ x3.toInt) → (x1.toInt < 4096) → (2147483647 - x3.toInt).toNat < n_9 → okp (fun (a : Int32) σ1 τ1 => QB 16 σ1 g) (rec_9 σ τ x1 x2 x3)) {σ : gI} {τ : gJ} {x1 : Int32} {x2 : Int32} {x3 : Int32} {x4 : Int32} (hQ : QB 16 σ g) (h0_9 : 0 ≤ x3.toInt) (hm_9 : (2147483647 - x3.toInt).toNat < n_9 + 1) (hlt_9 : x3.toInt < 2147483647) (ha : x1.toInt < 4096) (h3 : x3.toInt ≤ x1.toInt) (hb : x4 = 0 ∨ x4 = 1) : okp (fun (a : Int32) σ1 τ1 => QB 16 σ1 g) (B_X12_laysFits_88 N rec_9 σ τ x1 x2 x3 x4) := by
  unfold B_X12_laysFits_88
  have hg := qb_rng hQ
  have l_0 : (0 : Int32).toInt = 0 := rfl
  have l_1 : (1 : Int32).toInt = 1 := rfl
  have l_229 : (229 : Int32).toInt = 229 := rfl
  have l_4096 : (4096 : Int32).toInt = 4096 := rfl
  have r_x1 := i32_rng x1
  have r_x2 := i32_rng x2
  have r_x3 := i32_rng x3
  have r_x4 := i32_rng x4
  refine ok_ck ⟨by omega, by omega⟩ (fun j_1 hj_1 lj_1 => ?_)
  refine ok_cb hb ?_
  refine ok_nm (fun σ_3 e_3 => ?_)
  have hQ_3 := qb_up hQ e_3 (by omega)
  refine ok_bd (w_B_X12_flag_0 hN) (fun r_4 σ_4 τ_4 hp_4 => ?_)
  obtain ⟨h9_4, g_4⟩ := hp_4
  subst h9_4
  have r_r_4 := i32_rng r_4
  refine ok_nm (fun v_5 e_5 => ?_)
  refine ok_nm (fun v_6 e_6 => ?_)
  have u_6 : v_6.toInt = x3.toInt + (1 : Int32).toInt := by rw [e_6]; exact ti_add (by omega) (by omega)
  exact hrec_9 _ _ _ _ _ hQ_3 (by omega) (by omega) (by omega)
set_option maxHeartbeats 2000000 in
theorem w_C_X12_laysFits_32 (hN : 4294967296 ≤ N) {rec_9 : gI → gJ → Int32 → Int32 → Int32 → Option (Int32 × gI × gJ)} {n_9 : Nat} (hrec_9 : ∀ (σ : gI) (τ : gJ) (x1 : Int32) (x2 : Int32) (x3 : Int32), QB 16 σ g → (0 ≤ x3.toInt) → (x1.toInt < 4096) → (2147483647 - x3.toInt).toNat < n_9 → okp (fun (a : Int32) σ1 τ1 => QB 16 σ1 g) (rec_9 σ τ x1 x2 x3)) {rec_32 : gI → gJ → Int32 → Int32 → Int32 → Int32 → Int32 → Option (Int32 × gI × gJ)} {n_32 : Nat} (hrec_32 : ∀ (σ : gI) (τ : gJ) (x1 : Int32) (x2 : Int32) (x3 : Int32) (x4 : Int32) (x5 : Int32), QB 16 σ g → (0 ≤ x3.toInt) → ((2147483647 - x3.toInt).toNat < n_9 + 1) → (x3.toInt < 2147483647) → (0 ≤ x5.toInt) → (x1.toInt < 4096) → (x3.toInt ≤ x1.toInt) → (x4 = 0 ∨ x4 = 1) → (2147483647 - x5.toInt).toNat < n_32 → okp (fun (a : Int32) σ1 τ1 => QB 16 σ1 g) (rec_32 σ τ x1 x2 x3 x4 x5)) {σ : gI} {τ : gJ} {x1 : Int32} {x2 : Int32} {x3 : Int32} {x4 : Int32} {x5 : Int32} (hQ : QB 16 σ g) (h0_9 : 0 ≤ x3.toInt) (hm_9 : (2147483647 - x3.toInt).toNat < n_9 + 1) (hlt_9 : x3.toInt < 2147483647) (h0_32 : 0 ≤ x5.toInt) (hm_32 : (2147483647 - x5.toInt).toNat < n_32 + 1) (ha : x1.toInt < 4096) (h3 : x3.toInt ≤ x1.toInt) (hb : x4 = 0 ∨ x4 = 1) : okp (fun (a : Int32) σ1 τ1 => QB 16 σ1 g) (C_X12_laysFits_32 N rec_9 rec_32 σ τ x1 x2 x3 x4 x5) := by
  unfold C_X12_laysFits_32
  have hg := qb_rng hQ
  have l_0 : (0 : Int32).toInt = 0 := rfl
  have l_1 : (1 : Int32).toInt = 1 := rfl
  have l_10 : (10 : Int32).toInt = 10 := rfl
  have l_226 : (226 : Int32).toInt = 226 := rfl
  have l_227 : (227 : Int32).toInt = 227 := rfl
  have l_228 : (228 : Int32).toInt = 228 := rfl
  have r_x1 := i32_rng x1
  have r_x2 := i32_rng x2
  have r_x3 := i32_rng x3
  have r_x4 := i32_rng x4
  have r_x5 := i32_rng x5
  have p_2 := qb_co hQ
  refine ok_ite (fun c_1 => ?_) (fun c_1 => ?_)
  · simp only [fa_lt, fa_le, fa_eq] at c_1
    exact w_B_X12_laysFits_88 hN hrec_9 hQ (by omega) (by omega) (by omega) (by omega) (by omega) hb
  · simp only [fa_lt, fa_le, fa_eq] at c_1
    refine ok_ite (fun c_3 => ?_) (fun c_3 => ?_)
    · simp only [fa_lt, fa_le, fa_eq] at c_3
      exact w_B_X12_laysFits_88 hN hrec_9 hQ (by omega) (by omega) (by omega) (by omega) (by omega) hb
    · simp only [fa_lt, fa_le, fa_eq] at c_3
      refine ok_ck ⟨by omega, by omega⟩ (fun j_3 hj_3 lj_3 => ?_)
      have k_3 := qb_ck hQ (j := j_3) (by omega)
      refine ok_bd (w_B_X12_floatsTo_0 hN hQ (by omega) (by omega)) (fun r_4 σ_4 τ_4 hp_4 => ?_)
      have hQ_4 : QB 16 σ_4 g := hp_4.1
      have g_4 := hp_4.2
      have r_r_4 := i32_rng r_4
      refine ok_ite (fun c_4 => ?_) (fun c_4 => ?_)
      · simp only [fa_lt, fa_le, fa_eq] at c_4
        refine ok_nm (fun v_7 e_7 => ?_)
        have u_7 : v_7.toInt = x5.toInt + (1 : Int32).toInt := by rw [e_7]; exact ti_add (by omega) (by omega)
        exact hrec_32 _ _ _ _ _ _ _ hQ_4 (by omega) (by omega) (by omega) (by omega) (by omega) (by omega) (Or.inr rfl) (by omega)
      · simp only [fa_lt, fa_le, fa_eq] at c_4
        refine ok_nm (fun v_6 e_6 => ?_)
        have u_6 : v_6.toInt = x5.toInt + (1 : Int32).toInt := by rw [e_6]; exact ti_add (by omega) (by omega)
        exact hrec_32 _ _ _ _ _ _ _ hQ_4 (by omega) (by omega) (by omega) (by omega) (by omega) (by omega) (Or.inl rfl) (by omega)
theorem w_H_X12_laysFits_32 (hN : 4294967296 ≤ N) {rec_9 : gI → gJ → Int32 → Int32 → Int32 → Option (Int32 × gI × gJ)} {n_9 : Nat} (hrec_9 : ∀ (σ : gI) (τ : gJ) (x1 : Int32) (x2 : Int32) (x3 : Int32), QB 16 σ g → (0 ≤ x3.toInt) → (x1.toInt < 4096) → (2147483647 - x3.toInt).toNat < n_9 → okp (fun (a : Int32) σ1 τ1 => QB 16 σ1 g) (rec_9 σ τ x1 x2 x3)) : ∀ (n : Nat) (σ : gI) (τ : gJ) (x1 : Int32) (x2 : Int32) (x3 : Int32) (x4 : Int32) (x5 : Int32), QB 16 σ g → (0 ≤ x3.toInt) → ((2147483647 - x3.toInt).toNat < n_9 + 1) → (x3.toInt < 2147483647) → (0 ≤ x5.toInt) → (x1.toInt < 4096) → (x3.toInt ≤ x1.toInt) → (x4 = 0 ∨ x4 = 1) → (2147483647 - x5.toInt).toNat < n → okp (fun (a : Int32) σ1 τ1 => QB 16 σ1 g) (H_X12_laysFits_32 N rec_9 n σ τ x1 x2 x3 x4 x5) := by
  intro n
  induction n with
  | zero => intro σ τ x1 x2 x3 x4 x5 _ _ _ _ _ _ _ _ hm; exact absurd hm (Nat.not_lt_zero _)
  | succ n ih =>
    intro σ τ x1 x2 x3 x4 x5 hQ h0_9 hm_9 hlt_9 h0_32 ha h3 hb hm
    exact w_C_X12_laysFits_32 hN hrec_9 ih hQ h0_9 hm_9 hlt_9 h0_32 hm ha h3 hb
set_option maxHeartbeats 2000000 in
theorem w_C_X12_laysFits_9 (hN : 4294967296 ≤ N) {rec_9 : gI → gJ → Int32 → Int32 → Int32 → Option (Int32 × gI × gJ)} {n_9 : Nat} (hrec_9 : ∀ (σ : gI) (τ : gJ) (x1 : Int32) (x2 : Int32) (x3 : Int32), QB 16 σ g → (0 ≤ x3.toInt) → (x1.toInt < 4096) → (2147483647 - x3.toInt).toNat < n_9 → okp (fun (a : Int32) σ1 τ1 => QB 16 σ1 g) (rec_9 σ τ x1 x2 x3)) {σ : gI} {τ : gJ} {x1 : Int32} {x2 : Int32} {x3 : Int32} (hQ : QB 16 σ g) (h0_9 : 0 ≤ x3.toInt) (hm_9 : (2147483647 - x3.toInt).toNat < n_9 + 1) (ha : x1.toInt < 4096) : okp (fun (a : Int32) σ1 τ1 => QB 16 σ1 g) (C_X12_laysFits_9 N rec_9 σ τ x1 x2 x3) := by
  unfold C_X12_laysFits_9
  have hg := qb_rng hQ
  have l_m1 : (-1 : Int32).toInt = -1 := rfl
  have l_0 : (0 : Int32).toInt = 0 := rfl
  have l_1 : (1 : Int32).toInt = 1 := rfl
  have r_x1 := i32_rng x1
  have r_x2 := i32_rng x2
  have r_x3 := i32_rng x3
  refine ok_ite (fun c_1 => ?_) (fun c_1 => ?_)
  · simp only [fa_lt, fa_le, fa_eq] at c_1
    exact ok_r (qb_w hQ (by omega))
  · simp only [fa_lt, fa_le, fa_eq] at c_1
    refine ok_ite (fun c_2 => ?_) (fun c_2 => ?_)
    · exact w_H_X12_laysFits_32 hN hrec_9 N _ _ _ _ _ _ _ hQ (by omega) (by omega) (by omega) (by omega) (by omega) (by omega) (Or.inr rfl) (by omega)
    · exact w_H_X12_laysFits_32 hN hrec_9 N _ _ _ _ _ _ _ hQ (by omega) (by omega) (by omega) (by omega) (by omega) (by omega) (Or.inl rfl) (by omega)
theorem w_H_X12_laysFits_9 (hN : 4294967296 ≤ N) : ∀ (n : Nat) (σ : gI) (τ : gJ) (x1 : Int32) (x2 : Int32) (x3 : Int32), QB 16 σ g → (0 ≤ x3.toInt) → (x1.toInt < 4096) → (2147483647 - x3.toInt).toNat < n → okp (fun (a : Int32) σ1 τ1 => QB 16 σ1 g) (H_X12_laysFits_9 N n σ τ x1 x2 x3) := by
  intro n
  induction n with
  | zero => intro σ τ x1 x2 x3 _ _ _ hm; exact absurd hm (Nat.not_lt_zero _)
  | succ n ih =>
    intro σ τ x1 x2 x3 hQ h0_9 ha hm
    exact w_C_X12_laysFits_9 hN ih hQ h0_9 hm ha
set_option maxHeartbeats 2000000 in
theorem w_B_X12_laysFits_0 (hN : 4294967296 ≤ N) {σ : gI} {τ : gJ} (hQ : QB 16 σ g) : okp (fun (a : Int32) σ1 τ1 => QB 16 σ1 g) (B_X12_laysFits_0 N σ τ) := by
  unfold B_X12_laysFits_0
  have hg := qb_rng hQ
  have l_0 : (0 : Int32).toInt = 0 := rfl
  have l_1 : (1 : Int32).toInt = 1 := rfl
  refine ok_bd (w_B_X12_forks_0 hN hQ) (fun r_1 σ_1 τ_1 hp_1 => ?_)
  obtain ⟨h9_1, g_1⟩ := hp_1
  subst h9_1
  have r_r_1 := i32_rng r_1
  exact w_H_X12_laysFits_9 hN N _ _ _ _ _ hQ (by omega) (by omega) (by omega)
set_option maxHeartbeats 2000000 in
theorem w_C_X12_maps_34 (hN : 4294967296 ≤ N) {rec_34 : gI → gJ → Int32 → Int32 → Int32 → Int32 → Int32 → Int32 → Option (Int32 × gI × gJ)} {n_34 : Nat} (hrec_34 : ∀ (σ : gI) (τ : gJ) (x1 : Int32) (x2 : Int32) (x3 : Int32) (x4 : Int32) (x5 : Int32) (x6 : Int32), QB 16 σ g → (0 ≤ x6.toInt) → (x2.toInt < 4096) → (2147483647 - x6.toInt).toNat < n_34 → okp (fun (a : Int32) σ1 τ1 => QB 16 σ1 g) (rec_34 σ τ x1 x2 x3 x4 x5 x6)) {σ : gI} {τ : gJ} {x1 : Int32} {x2 : Int32} {x3 : Int32} {x4 : Int32} {x5 : Int32} {x6 : Int32} (hQ : QB 16 σ g) (h0_34 : 0 ≤ x6.toInt) (hm_34 : (2147483647 - x6.toInt).toNat < n_34 + 1) (ha : x2.toInt < 4096) : okp (fun (a : Int32) σ1 τ1 => QB 16 σ1 g) (C_X12_maps_34 N rec_34 σ τ x1 x2 x3 x4 x5 x6) := by
  unfold C_X12_maps_34
  have hg := qb_rng hQ
  have l_m1 : (-1 : Int32).toInt = -1 := rfl
  have l_0 : (0 : Int32).toInt = 0 := rfl
  have l_1 : (1 : Int32).toInt = 1 := rfl
  have l_229 : (229 : Int32).toInt = 229 := rfl
  have l_4096 : (4096 : Int32).toInt = 4096 := rfl
  have r_x1 := i32_rng x1
  have r_x2 := i32_rng x2
  have r_x3 := i32_rng x3
  have r_x4 := i32_rng x4
  have r_x5 := i32_rng x5
  have r_x6 := i32_rng x6
  refine ok_ite (fun c_1 => ?_) (fun c_1 => ?_)
  · simp only [fa_lt, fa_le, fa_eq] at c_1
    refine ok_nm (fun σ_2 e_2 => ?_)
    have hQ_2 := qb_r0 hQ e_2
    refine ok_bd (w_B_X12_enters_0 hN hQ_2 (by omega)) (fun _ σ_3 τ_3 hp_3 => ?_)
    have hQ_3 : QB 1 σ_3 g := hp_3.1
    have g_3 := hp_3.2
    refine ok_bd (w_B_X12_enters_0 hN hQ_3 (by omega)) (fun _ σ_4 τ_4 hp_4 => ?_)
    have hQ_4 : QB 2 σ_4 g := hp_4.1
    have g_4 := hp_4.2
    refine ok_ite (fun c_2 => ?_) (fun c_2 => ?_)
    · simp only [fa_lt, fa_le, fa_eq] at c_2
      refine ok_bd (w_B_X12_enters_0 hN hQ_4 (by omega)) (fun _ σ_6 τ_6 hp_6 => ?_)
      have hQ_6 : QB 3 σ_6 g := hp_6.1
      have g_6 := hp_6.2
      exact ok_r (qb_w hQ_6 (by omega))
    · simp only [fa_lt, fa_le, fa_eq] at c_2
      refine ok_bd (w_B_X12_enters_0 hN hQ_4 (by omega)) (fun _ σ_7 τ_7 hp_7 => ?_)
      have hQ_7 : QB 3 σ_7 g := hp_7.1
      have g_7 := hp_7.2
      exact ok_r (qb_w hQ_7 (by omega))
  · simp only [fa_lt, fa_le, fa_eq] at c_1
    refine ok_ck ⟨by omega, by omega⟩ (fun j_8 hj_8 lj_8 => ?_)
    refine ok_ite (fun c_3 => ?_) (fun c_3 => ?_)
    · simp only [fa_lt, fa_le, fa_eq] at c_3
      refine ok_nm (fun v_10 e_10 => ?_)
      have u_10 : v_10.toInt = x6.toInt + (1 : Int32).toInt := by rw [e_10]; exact ti_add (by omega) (by omega)
      exact hrec_34 _ _ _ _ _ _ _ _ hQ (by omega) (by omega) (by omega)
    · simp only [fa_lt, fa_le, fa_eq] at c_3
      refine ok_ite (fun c_4 => ?_) (fun c_4 => ?_)
      · simp only [fa_lt, fa_le, fa_eq] at c_4
        refine ok_nm (fun v_12 e_12 => ?_)
        refine ok_nm (fun v_13 e_13 => ?_)
        refine ok_nm (fun v_14 e_14 => ?_)
        have u_14 : v_14.toInt = x6.toInt + (1 : Int32).toInt := by rw [e_14]; exact ti_add (by omega) (by omega)
        exact hrec_34 _ _ _ _ _ _ _ _ hQ (by omega) (by omega) (by omega)
      · simp only [fa_lt, fa_le, fa_eq] at c_4
        refine ok_nm (fun v_15 e_15 => ?_)
        refine ok_nm (fun v_16 e_16 => ?_)
        refine ok_nm (fun v_17 e_17 => ?_)
        have u_17 : v_17.toInt = x6.toInt + (1 : Int32).toInt := by rw [e_17]; exact ti_add (by omega) (by omega)
        exact hrec_34 _ _ _ _ _ _ _ _ hQ (by omega) (by omega) (by omega)
theorem w_H_X12_maps_34 (hN : 4294967296 ≤ N) : ∀ (n : Nat) (σ : gI) (τ : gJ) (x1 : Int32) (x2 : Int32) (x3 : Int32) (x4 : Int32) (x5 : Int32) (x6 : Int32), QB 16 σ g → (0 ≤ x6.toInt) → (x2.toInt < 4096) → (2147483647 - x6.toInt).toNat < n → okp (fun (a : Int32) σ1 τ1 => QB 16 σ1 g) (H_X12_maps_34 N n σ τ x1 x2 x3 x4 x5 x6) := by
  intro n
  induction n with
  | zero => intro σ τ x1 x2 x3 x4 x5 x6 _ _ _ hm; exact absurd hm (Nat.not_lt_zero _)
  | succ n ih =>
    intro σ τ x1 x2 x3 x4 x5 x6 hQ h0_34 ha hm
    exact w_C_X12_maps_34 hN ih hQ h0_34 hm ha
set_option maxHeartbeats 2000000 in
theorem w_B_X12_maps_0 (hN : 4294967296 ≤ N) {σ : gI} {τ : gJ} (hQ : QB 16 σ g) : okp (fun (a : Int32) σ1 τ1 => QB 16 σ1 g) (B_X12_maps_0 N σ τ) := by
  unfold B_X12_maps_0
  have hg := qb_rng hQ
  have l_m1 : (-1 : Int32).toInt = -1 := rfl
  have l_0 : (0 : Int32).toInt = 0 := rfl
  have l_1 : (1 : Int32).toInt = 1 := rfl
  refine ok_nm (fun σ_1 e_1 => ?_)
  have hQ_1 := qb_up hQ e_1 (by omega)
  refine ok_bd (w_B_X12_laysFits_0 hN hQ_1) (fun r_2 σ_2 τ_2 hp_2 => ?_)
  have hQ_2 : QB 16 σ_2 g := hp_2
  have r_r_2 := i32_rng r_2
  refine ok_bd (w_B_X12_forks_0 hN hQ_2) (fun r_3 σ_3 τ_3 hp_3 => ?_)
  obtain ⟨h9_3, g_3⟩ := hp_3
  subst h9_3
  have r_r_3 := i32_rng r_3
  refine ok_ite (fun c_1 => ?_) (fun c_1 => ?_)
  · simp only [fa_lt, fa_le, fa_eq] at c_1
    exact w_H_X12_maps_34 hN N _ _ _ _ _ _ _ _ hQ_2 (by omega) (by omega) (by omega)
  · simp only [fa_lt, fa_le, fa_eq] at c_1
    exact w_H_X12_maps_34 hN N _ _ _ _ _ _ _ _ hQ_2 (by omega) (by omega) (by omega)
set_option maxHeartbeats 2000000 in
theorem w_C_X12_next_133 (hN : 4294967296 ≤ N) {rec_49 : gI → gJ → Int32 → Int32 → Int32 → Int32 → Int32 → Option (Int32 × gI × gJ)} {n_49 : Nat} (hrec_49 : ∀ (σ : gI) (τ : gJ) (x1 : Int32) (x2 : Int32) (x3 : Int32) (x4 : Int32) (x5 : Int32), QB 16 σ g → (0 ≤ x5.toInt) → (x2.toInt < 4096) → (0 ≤ x1.toInt ∧ x1.toInt ≤ 999) → (2147483647 - x5.toInt).toNat < n_49 → okp (fun (a : Int32) σ1 τ1 => QB 16 σ1 g) (rec_49 σ τ x1 x2 x3 x4 x5)) {rec_133 : gI → gJ → Int32 → Int32 → Int32 → Int32 → Int32 → Int32 → Int32 → Option (Int32 × gI × gJ)} {n_133 : Nat} (hrec_133 : ∀ (σ : gI) (τ : gJ) (x1 : Int32) (x2 : Int32) (x3 : Int32) (x4 : Int32) (x5 : Int32) (x6 : Int32) (x7 : Int32), QB 16 σ g → (0 ≤ x5.toInt) → ((2147483647 - x5.toInt).toNat < n_49 + 1) → (x5.toInt < 2147483647) → (0 ≤ x7.toInt) → (x2.toInt < 4096) → (0 ≤ x1.toInt ∧ x1.toInt ≤ 999) → (2147483647 - x7.toInt).toNat < n_133 → okp (fun (a : Int32) σ1 τ1 => QB 16 σ1 g) (rec_133 σ τ x1 x2 x3 x4 x5 x6 x7)) {σ : gI} {τ : gJ} {x1 : Int32} {x2 : Int32} {x3 : Int32} {x4 : Int32} {x5 : Int32} {x6 : Int32} {x7 : Int32} (hQ : QB 16 σ g) (h0_49 : 0 ≤ x5.toInt) (hm_49 : (2147483647 - x5.toInt).toNat < n_49 + 1) (hlt_49 : x5.toInt < 2147483647) (h0_133 : 0 ≤ x7.toInt) (hm_133 : (2147483647 - x7.toInt).toNat < n_133 + 1) (ha : x2.toInt < 4096) (hk1 : 0 ≤ x1.toInt ∧ x1.toInt ≤ 999) : okp (fun (a : Int32) σ1 τ1 => QB 16 σ1 g) (C_X12_next_133 N rec_49 rec_133 σ τ x1 x2 x3 x4 x5 x6 x7) := by
  unfold C_X12_next_133
  have hg := qb_rng hQ
  have l_0 : (0 : Int32).toInt = 0 := rfl
  have l_1 : (1 : Int32).toInt = 1 := rfl
  have l_12 : (12 : Int32).toInt = 12 := rfl
  have l_13 : (13 : Int32).toInt = 13 := rfl
  have l_230 : (230 : Int32).toInt = 230 := rfl
  have r_x1 := i32_rng x1
  have r_x2 := i32_rng x2
  have r_x3 := i32_rng x3
  have r_x4 := i32_rng x4
  have r_x5 := i32_rng x5
  have r_x6 := i32_rng x6
  have r_x7 := i32_rng x7
  refine ok_ite (fun c_1 => ?_) (fun c_1 => ?_)
  · simp only [fa_lt, fa_le, fa_eq] at c_1
    refine ok_ite (fun c_2 => ?_) (fun c_2 => ?_)
    · simp only [fa_lt, fa_le, fa_eq] at c_2
      refine ok_nm (fun v_3 e_3 => ?_)
      have u_3 : v_3.toInt = x5.toInt + (1 : Int32).toInt := by rw [e_3]; exact ti_add (by omega) (by omega)
      exact hrec_49 _ _ _ _ _ _ _ hQ (by omega) (by omega) (by omega) (by omega)
    · simp only [fa_lt, fa_le, fa_eq] at c_2
      refine ok_ite (fun c_3 => ?_) (fun c_3 => ?_)
      · simp only [fa_lt, fa_le, fa_eq] at c_3
        refine ok_nm (fun v_5 e_5 => ?_)
        have u_5 : v_5.toInt = x5.toInt + (1 : Int32).toInt := by rw [e_5]; exact ti_add (by omega) (by omega)
        exact hrec_49 _ _ _ _ _ _ _ hQ (by omega) (by omega) (by omega) (by omega)
      · simp only [fa_lt, fa_le, fa_eq] at c_3
        refine ok_nm (fun v_6 e_6 => ?_)
        have u_6 : v_6.toInt = x5.toInt + (1 : Int32).toInt := by rw [e_6]; exact ti_add (by omega) (by omega)
        exact hrec_49 _ _ _ _ _ _ _ hQ (by omega) (by omega) (by omega) (by omega)
  · simp only [fa_lt, fa_le, fa_eq] at c_1
    refine ok_ck ⟨by omega, by omega⟩ (fun j_7 hj_7 lj_7 => ?_)
    refine ok_nm (fun v_8 e_8 => ?_)
    refine ok_nm (fun v_9 e_9 => ?_)
    have u_9 : v_9.toInt = x7.toInt + (1 : Int32).toInt := by rw [e_9]; exact ti_add (by omega) (by omega)
    exact hrec_133 _ _ _ _ _ _ _ _ _ hQ (by omega) (by omega) (by omega) (by omega) (by omega) (by omega) (by omega)
theorem w_H_X12_next_133 (hN : 4294967296 ≤ N) {rec_49 : gI → gJ → Int32 → Int32 → Int32 → Int32 → Int32 → Option (Int32 × gI × gJ)} {n_49 : Nat} (hrec_49 : ∀ (σ : gI) (τ : gJ) (x1 : Int32) (x2 : Int32) (x3 : Int32) (x4 : Int32) (x5 : Int32), QB 16 σ g → (0 ≤ x5.toInt) → (x2.toInt < 4096) → (0 ≤ x1.toInt ∧ x1.toInt ≤ 999) → (2147483647 - x5.toInt).toNat < n_49 → okp (fun (a : Int32) σ1 τ1 => QB 16 σ1 g) (rec_49 σ τ x1 x2 x3 x4 x5)) : ∀ (n : Nat) (σ : gI) (τ : gJ) (x1 : Int32) (x2 : Int32) (x3 : Int32) (x4 : Int32) (x5 : Int32) (x6 : Int32) (x7 : Int32), QB 16 σ g → (0 ≤ x5.toInt) → ((2147483647 - x5.toInt).toNat < n_49 + 1) → (x5.toInt < 2147483647) → (0 ≤ x7.toInt) → (x2.toInt < 4096) → (0 ≤ x1.toInt ∧ x1.toInt ≤ 999) → (2147483647 - x7.toInt).toNat < n → okp (fun (a : Int32) σ1 τ1 => QB 16 σ1 g) (H_X12_next_133 N rec_49 n σ τ x1 x2 x3 x4 x5 x6 x7) := by
  intro n
  induction n with
  | zero => intro σ τ x1 x2 x3 x4 x5 x6 x7 _ _ _ _ _ _ _ hm; exact absurd hm (Nat.not_lt_zero _)
  | succ n ih =>
    intro σ τ x1 x2 x3 x4 x5 x6 x7 hQ h0_49 hm_49 hlt_49 h0_133 ha hk1 hm
    exact w_C_X12_next_133 hN hrec_49 ih hQ h0_49 hm_49 hlt_49 h0_133 hm ha hk1
set_option maxHeartbeats 2000000 in
theorem w_C_X12_next_85 (hN : 4294967296 ≤ N) {rec_49 : gI → gJ → Int32 → Int32 → Int32 → Int32 → Int32 → Option (Int32 × gI × gJ)} {n_49 : Nat} (hrec_49 : ∀ (σ : gI) (τ : gJ) (x1 : Int32) (x2 : Int32) (x3 : Int32) (x4 : Int32) (x5 : Int32), QB 16 σ g → (0 ≤ x5.toInt) → (x2.toInt < 4096) → (0 ≤ x1.toInt ∧ x1.toInt ≤ 999) → (2147483647 - x5.toInt).toNat < n_49 → okp (fun (a : Int32) σ1 τ1 => QB 16 σ1 g) (rec_49 σ τ x1 x2 x3 x4 x5)) {rec_85 : gI → gJ → Int32 → Int32 → Int32 → Int32 → Int32 → Int32 → Option (Int32 × gI × gJ)} {n_85 : Nat} (hrec_85 : ∀ (σ : gI) (τ : gJ) (x1 : Int32) (x2 : Int32) (x3 : Int32) (x4 : Int32) (x5 : Int32) (x6 : Int32), QB 16 σ g → (0 ≤ x5.toInt) → ((2147483647 - x5.toInt).toNat < n_49 + 1) → (x5.toInt < 2147483647) → (0 ≤ x6.toInt) → (x2.toInt < 4096) → (0 ≤ x1.toInt ∧ x1.toInt ≤ 999) → (x5.toInt < (g 0).toInt) → (2147483647 - x6.toInt).toNat < n_85 → okp (fun (a : Int32) σ1 τ1 => QB 16 σ1 g) (rec_85 σ τ x1 x2 x3 x4 x5 x6)) {σ : gI} {τ : gJ} {x1 : Int32} {x2 : Int32} {x3 : Int32} {x4 : Int32} {x5 : Int32} {x6 : Int32} (hQ : QB 16 σ g) (h0_49 : 0 ≤ x5.toInt) (hm_49 : (2147483647 - x5.toInt).toNat < n_49 + 1) (hlt_49 : x5.toInt < 2147483647) (h0_85 : 0 ≤ x6.toInt) (hm_85 : (2147483647 - x6.toInt).toNat < n_85 + 1) (ha : x2.toInt < 4096) (hk1 : 0 ≤ x1.toInt ∧ x1.toInt ≤ 999) (h5 : x5.toInt < (g 0).toInt) : okp (fun (a : Int32) σ1 τ1 => QB 16 σ1 g) (C_X12_next_85 N rec_49 rec_85 σ τ x1 x2 x3 x4 x5 x6) := by
  unfold C_X12_next_85
  have hg := qb_rng hQ
  have l_0 : (0 : Int32).toInt = 0 := rfl
  have l_1 : (1 : Int32).toInt = 1 := rfl
  have l_13 : (13 : Int32).toInt = 13 := rfl
  have l_229 : (229 : Int32).toInt = 229 := rfl
  have l_230 : (230 : Int32).toInt = 230 := rfl
  have l_4096 : (4096 : Int32).toInt = 4096 := rfl
  have r_x1 := i32_rng x1
  have r_x2 := i32_rng x2
  have r_x3 := i32_rng x3
  have r_x4 := i32_rng x4
  have r_x5 := i32_rng x5
  have r_x6 := i32_rng x6
  refine ok_ite (fun c_1 => ?_) (fun c_1 => ?_)
  · simp only [fa_lt, fa_le, fa_eq] at c_1
    exact w_H_X12_next_133 hN hrec_49 N _ _ _ _ _ _ _ _ _ hQ (by omega) (by omega) (by omega) (by omega) (by omega) (by omega) (by omega)
  · simp only [fa_lt, fa_le, fa_eq] at c_1
    refine ok_ck ⟨by omega, by omega⟩ (fun j_2 hj_2 lj_2 => ?_)
    refine ok_ite (fun c_2 => ?_) (fun c_2 => ?_)
    · simp only [fa_lt, fa_le, fa_eq] at c_2
      refine ok_nm (fun v_4 e_4 => ?_)
      have u_4 : v_4.toInt = x6.toInt + (1 : Int32).toInt := by rw [e_4]; exact ti_add (by omega) (by omega)
      exact hrec_85 _ _ _ _ _ _ _ _ hQ (by omega) (by omega) (by omega) (by omega) (by omega) (by omega) (by omega) (by omega)
    · simp only [fa_lt, fa_le, fa_eq] at c_2
      refine ok_bd (w_B_X12_floatsTo_0 hN hQ (by omega) (by omega)) (fun r_5 σ_5 τ_5 hp_5 => ?_)
      have hQ_5 : QB 16 σ_5 g := hp_5.1
      have g_5 := hp_5.2
      have r_r_5 := i32_rng r_5
      have i_6 := ti_add (a := 1) (b := r_5) (by omega) (by omega)
      refine ok_ck ⟨by omega, by omega⟩ (fun j_6 hj_6 lj_6 => ?_)
      refine ok_nm (fun σ_7 e_7 => ?_)
      have hQ_7 := qb_up hQ_5 e_7 (by omega)
      refine ok_nm (fun v_8 e_8 => ?_)
      have u_8 : v_8.toInt = x6.toInt + (1 : Int32).toInt := by rw [e_8]; exact ti_add (by omega) (by omega)
      exact hrec_85 _ _ _ _ _ _ _ _ hQ_7 (by omega) (by omega) (by omega) (by omega) (by omega) (by omega) (by omega) (by omega)
theorem w_H_X12_next_85 (hN : 4294967296 ≤ N) {rec_49 : gI → gJ → Int32 → Int32 → Int32 → Int32 → Int32 → Option (Int32 × gI × gJ)} {n_49 : Nat} (hrec_49 : ∀ (σ : gI) (τ : gJ) (x1 : Int32) (x2 : Int32) (x3 : Int32) (x4 : Int32) (x5 : Int32), QB 16 σ g → (0 ≤ x5.toInt) → (x2.toInt < 4096) → (0 ≤ x1.toInt ∧ x1.toInt ≤ 999) → (2147483647 - x5.toInt).toNat < n_49 → okp (fun (a : Int32) σ1 τ1 => QB 16 σ1 g) (rec_49 σ τ x1 x2 x3 x4 x5)) : ∀ (n : Nat) (σ : gI) (τ : gJ) (x1 : Int32) (x2 : Int32) (x3 : Int32) (x4 : Int32) (x5 : Int32) (x6 : Int32), QB 16 σ g → (0 ≤ x5.toInt) → ((2147483647 - x5.toInt).toNat < n_49 + 1) → (x5.toInt < 2147483647) → (0 ≤ x6.toInt) → (x2.toInt < 4096) → (0 ≤ x1.toInt ∧ x1.toInt ≤ 999) → (x5.toInt < (g 0).toInt) → (2147483647 - x6.toInt).toNat < n → okp (fun (a : Int32) σ1 τ1 => QB 16 σ1 g) (H_X12_next_85 N rec_49 n σ τ x1 x2 x3 x4 x5 x6) := by
  intro n
  induction n with
  | zero => intro σ τ x1 x2 x3 x4 x5 x6 _ _ _ _ _ _ _ _ hm; exact absurd hm (Nat.not_lt_zero _)
  | succ n ih =>
    intro σ τ x1 x2 x3 x4 x5 x6 hQ h0_49 hm_49 hlt_49 h0_85 ha hk1 h5 hm
    exact w_C_X12_next_85 hN hrec_49 ih hQ h0_49 hm_49 hlt_49 h0_85 hm ha hk1 h5
set_option maxHeartbeats 2000000 in
theorem w_C_X12_next_61 (hN : 4294967296 ≤ N) {rec_49 : gI → gJ → Int32 → Int32 → Int32 → Int32 → Int32 → Option (Int32 × gI × gJ)} {n_49 : Nat} (hrec_49 : ∀ (σ : gI) (τ : gJ) (x1 : Int32) (x2 : Int32) (x3 : Int32) (x4 : Int32) (x5 : Int32), QB 16 σ g → (0 ≤ x5.toInt) → (x2.toInt < 4096) → (0 ≤ x1.toInt ∧ x1.toInt ≤ 999) → (2147483647 - x5.toInt).toNat < n_49 → okp (fun (a : Int32) σ1 τ1 => QB 16 σ1 g) (rec_49 σ τ x1 x2 x3 x4 x5)) {rec_61 : gI → gJ → Int32 → Int32 → Int32 → Int32 → Int32 → Int32 → Option (Int32 × gI × gJ)} {n_61 : Nat} (hrec_61 : ∀ (σ : gI) (τ : gJ) (x1 : Int32) (x2 : Int32) (x3 : Int32) (x4 : Int32) (x5 : Int32) (x6 : Int32), QB 16 σ g → (0 ≤ x5.toInt) → ((2147483647 - x5.toInt).toNat < n_49 + 1) → (x5.toInt < 2147483647) → (0 ≤ x6.toInt) → (x2.toInt < 4096) → (0 ≤ x1.toInt ∧ x1.toInt ≤ 999) → (x5.toInt < (g 0).toInt) → (2147483647 - x6.toInt).toNat < n_61 → okp (fun (a : Int32) σ1 τ1 => QB 16 σ1 g) (rec_61 σ τ x1 x2 x3 x4 x5 x6)) {σ : gI} {τ : gJ} {x1 : Int32} {x2 : Int32} {x3 : Int32} {x4 : Int32} {x5 : Int32} {x6 : Int32} (hQ : QB 16 σ g) (h0_49 : 0 ≤ x5.toInt) (hm_49 : (2147483647 - x5.toInt).toNat < n_49 + 1) (hlt_49 : x5.toInt < 2147483647) (h0_61 : 0 ≤ x6.toInt) (hm_61 : (2147483647 - x6.toInt).toNat < n_61 + 1) (ha : x2.toInt < 4096) (hk1 : 0 ≤ x1.toInt ∧ x1.toInt ≤ 999) (h5 : x5.toInt < (g 0).toInt) : okp (fun (a : Int32) σ1 τ1 => QB 16 σ1 g) (C_X12_next_61 N rec_49 rec_61 σ τ x1 x2 x3 x4 x5 x6) := by
  unfold C_X12_next_61
  have hg := qb_rng hQ
  have l_0 : (0 : Int32).toInt = 0 := rfl
  have l_1 : (1 : Int32).toInt = 1 := rfl
  have l_12 : (12 : Int32).toInt = 12 := rfl
  have l_13 : (13 : Int32).toInt = 13 := rfl
  have l_230 : (230 : Int32).toInt = 230 := rfl
  have r_x1 := i32_rng x1
  have r_x2 := i32_rng x2
  have r_x3 := i32_rng x3
  have r_x4 := i32_rng x4
  have r_x5 := i32_rng x5
  have r_x6 := i32_rng x6
  refine ok_ite (fun c_1 => ?_) (fun c_1 => ?_)
  · simp only [fa_lt, fa_le, fa_eq] at c_1
    exact w_H_X12_next_85 hN hrec_49 N _ _ _ _ _ _ _ _ hQ (by omega) (by omega) (by omega) (by omega) (by omega) (by omega) (by omega) (by omega)
  · simp only [fa_lt, fa_le, fa_eq] at c_1
    refine ok_ck ⟨by omega, by omega⟩ (fun j_2 hj_2 lj_2 => ?_)
    refine ok_nm (fun σ_3 e_3 => ?_)
    have hQ_3 := qb_up hQ e_3 (by omega)
    refine ok_nm (fun v_4 e_4 => ?_)
    have u_4 : v_4.toInt = x6.toInt + (1 : Int32).toInt := by rw [e_4]; exact ti_add (by omega) (by omega)
    exact hrec_61 _ _ _ _ _ _ _ _ hQ_3 (by omega) (by omega) (by omega) (by omega) (by omega) (by omega) (by omega) (by omega)
theorem w_H_X12_next_61 (hN : 4294967296 ≤ N) {rec_49 : gI → gJ → Int32 → Int32 → Int32 → Int32 → Int32 → Option (Int32 × gI × gJ)} {n_49 : Nat} (hrec_49 : ∀ (σ : gI) (τ : gJ) (x1 : Int32) (x2 : Int32) (x3 : Int32) (x4 : Int32) (x5 : Int32), QB 16 σ g → (0 ≤ x5.toInt) → (x2.toInt < 4096) → (0 ≤ x1.toInt ∧ x1.toInt ≤ 999) → (2147483647 - x5.toInt).toNat < n_49 → okp (fun (a : Int32) σ1 τ1 => QB 16 σ1 g) (rec_49 σ τ x1 x2 x3 x4 x5)) : ∀ (n : Nat) (σ : gI) (τ : gJ) (x1 : Int32) (x2 : Int32) (x3 : Int32) (x4 : Int32) (x5 : Int32) (x6 : Int32), QB 16 σ g → (0 ≤ x5.toInt) → ((2147483647 - x5.toInt).toNat < n_49 + 1) → (x5.toInt < 2147483647) → (0 ≤ x6.toInt) → (x2.toInt < 4096) → (0 ≤ x1.toInt ∧ x1.toInt ≤ 999) → (x5.toInt < (g 0).toInt) → (2147483647 - x6.toInt).toNat < n → okp (fun (a : Int32) σ1 τ1 => QB 16 σ1 g) (H_X12_next_61 N rec_49 n σ τ x1 x2 x3 x4 x5 x6) := by
  intro n
  induction n with
  | zero => intro σ τ x1 x2 x3 x4 x5 x6 _ _ _ _ _ _ _ _ hm; exact absurd hm (Nat.not_lt_zero _)
  | succ n ih =>
    intro σ τ x1 x2 x3 x4 x5 x6 hQ h0_49 hm_49 hlt_49 h0_61 ha hk1 h5 hm
    exact w_C_X12_next_61 hN hrec_49 ih hQ h0_49 hm_49 hlt_49 h0_61 hm ha hk1 h5
set_option maxHeartbeats 2000000 in
theorem w_C_X12_next_49 (hN : 4294967296 ≤ N) {rec_49 : gI → gJ → Int32 → Int32 → Int32 → Int32 → Int32 → Option (Int32 × gI × gJ)} {n_49 : Nat} (hrec_49 : ∀ (σ : gI) (τ : gJ) (x1 : Int32) (x2 : Int32) (x3 : Int32) (x4 : Int32) (x5 : Int32), QB 16 σ g → (0 ≤ x5.toInt) → (x2.toInt < 4096) → (0 ≤ x1.toInt ∧ x1.toInt ≤ 999) → (2147483647 - x5.toInt).toNat < n_49 → okp (fun (a : Int32) σ1 τ1 => QB 16 σ1 g) (rec_49 σ τ x1 x2 x3 x4 x5)) {σ : gI} {τ : gJ} {x1 : Int32} {x2 : Int32} {x3 : Int32} {x4 : Int32} {x5 : Int32} (hQ : QB 16 σ g) (h0_49 : 0 ≤ x5.toInt) (hm_49 : (2147483647 - x5.toInt).toNat < n_49 + 1) (ha : x2.toInt < 4096) (hk1 : 0 ≤ x1.toInt ∧ x1.toInt ≤ 999) : okp (fun (a : Int32) σ1 τ1 => QB 16 σ1 g) (C_X12_next_49 N rec_49 σ τ x1 x2 x3 x4 x5) := by
  unfold C_X12_next_49
  have hg := qb_rng hQ
  have l_0 : (0 : Int32).toInt = 0 := rfl
  have l_1 : (1 : Int32).toInt = 1 := rfl
  have r_x1 := i32_rng x1
  have r_x2 := i32_rng x2
  have r_x3 := i32_rng x3
  have r_x4 := i32_rng x4
  have r_x5 := i32_rng x5
  have p_2 := qb_pl hQ
  refine ok_ite (fun c_1 => ?_) (fun c_1 => ?_)
  · simp only [fa_lt, fa_le, fa_eq] at c_1
    refine ok_nm (fun σ_2 e_2 => ?_)
    have hQ_2 := qb_r0 hQ e_2
    refine ok_bd (w_B_X12_enters_0 hN hQ_2 (by omega)) (fun _ σ_3 τ_3 hp_3 => ?_)
    have hQ_3 : QB 1 σ_3 g := hp_3.1
    have g_3 := hp_3.2
    exact ok_r (qb_w hQ_3 (by omega))
  · simp only [fa_lt, fa_le, fa_eq] at c_1
    exact w_H_X12_next_61 hN hrec_49 N _ _ _ _ _ _ _ _ hQ (by omega) (by omega) (by omega) (by omega) (by omega) (by omega) (by omega) (by omega)
theorem w_H_X12_next_49 (hN : 4294967296 ≤ N) : ∀ (n : Nat) (σ : gI) (τ : gJ) (x1 : Int32) (x2 : Int32) (x3 : Int32) (x4 : Int32) (x5 : Int32), QB 16 σ g → (0 ≤ x5.toInt) → (x2.toInt < 4096) → (0 ≤ x1.toInt ∧ x1.toInt ≤ 999) → (2147483647 - x5.toInt).toNat < n → okp (fun (a : Int32) σ1 τ1 => QB 16 σ1 g) (H_X12_next_49 N n σ τ x1 x2 x3 x4 x5) := by
  intro n
  induction n with
  | zero => intro σ τ x1 x2 x3 x4 x5 _ _ _ _ hm; exact absurd hm (Nat.not_lt_zero _)
  | succ n ih =>
    intro σ τ x1 x2 x3 x4 x5 hQ h0_49 ha hk1 hm
    exact w_C_X12_next_49 hN ih hQ h0_49 hm ha hk1
set_option maxHeartbeats 2000000 in
theorem w_B_X12_next_0 (hN : 4294967296 ≤ N) {σ : gI} {τ : gJ} {x1 : Int32} (hQ : QB 16 σ g) : okp (fun (a : Int32) σ1 τ1 => QB 16 σ1 g) (B_X12_next_0 N σ τ x1) := by
  unfold B_X12_next_0
  have hg := qb_rng hQ
  have l_m2 : (-2 : Int32).toInt = -2 := rfl
  have l_m1 : (-1 : Int32).toInt = -1 := rfl
  have l_0 : (0 : Int32).toInt = 0 := rfl
  have l_1 : (1 : Int32).toInt = 1 := rfl
  have l_3 : (3 : Int32).toInt = 3 := rfl
  have l_199 : (199 : Int32).toInt = 199 := rfl
  have l_999 : (999 : Int32).toInt = 999 := rfl
  have r_x1 := i32_rng x1
  refine ok_nm (fun σ_1 e_1 => ?_)
  have hQ_1 := qb_up hQ e_1 (by omega)
  have p_2 := qb_pl hQ_1
  refine ok_ite (fun c_1 => ?_) (fun c_1 => ?_)
  · simp only [fa_lt, fa_le, fa_eq] at c_1
    exact ok_r (qb_w hQ_1 (by omega))
  · simp only [fa_lt, fa_le, fa_eq] at c_1
    refine ok_bd (w_B_X12_in_0 hN) (fun r_3 σ_3 τ_3 hp_3 => ?_)
    obtain ⟨h9_3, g_3⟩ := hp_3
    subst h9_3
    have k_3 := g_3.2; simp only [Int32.toInt_toInt64, show (0 : Int64).toInt = 0 from rfl, show (999 : Int64).toInt = 999 from rfl] at k_3
    have r_r_3 := i32_rng r_3
    refine ok_ite (fun c_3 => ?_) (fun c_3 => ?_)
    · simp only [fa_lt, fa_le, fa_eq] at c_3
      exact ok_r (qb_w hQ_1 (by omega))
    · simp only [fa_lt, fa_le, fa_eq] at c_3
      refine ok_bd (w_B_X12_laysFits_0 hN hQ_1) (fun r_5 σ_5 τ_5 hp_5 => ?_)
      have hQ_5 : QB 16 σ_5 g := hp_5
      have r_r_5 := i32_rng r_5
      refine ok_ite (fun c_4 => ?_) (fun c_4 => ?_)
      · simp only [fa_lt, fa_le, fa_eq] at c_4
        exact ok_r (qb_w hQ_5 (by omega))
      · simp only [fa_lt, fa_le, fa_eq] at c_4
        refine ok_bd (w_B_X12_forks_0 hN hQ_5) (fun r_7 σ_7 τ_7 hp_7 => ?_)
        obtain ⟨h9_7, g_7⟩ := hp_7
        subst h9_7
        have r_r_7 := i32_rng r_7
        exact w_H_X12_next_49 hN N _ _ _ _ _ _ _ hQ_5 (by omega) (by omega) (by omega) (by omega)
set_option maxHeartbeats 2000000 in
theorem w_B_X12_marks_126 (hN : 4294967296 ≤ N) {rec_62 : gI → gJ → Int32 → Int32 → Int32 → Int32 → Int32 → Int32 → Int32 → Int32 → Option (Int32 × gI × gJ)} {n_62 : Nat} (hrec_62 : ∀ (σ : gI) (τ : gJ) (x1 : Int32) (x2 : Int32) (x3 : Int32) (x4 : Int32) (x5 : Int32) (x6 : Int32) (x7 : Int32) (x8 : Int32), QB 16 σ g → (0 ≤ x8.toInt) → (2147483647 - x8.toInt).toNat < n_62 → okp (fun (a : Int32) σ1 τ1 => QB 16 σ1 g) (rec_62 σ τ x1 x2 x3 x4 x5 x6 x7 x8)) {rec_74 : gI → gJ → Int32 → Int32 → Int32 → Int32 → Int32 → Int32 → Int32 → Int32 → Int32 → Option (Int32 × gI × gJ)} {n_74 : Nat} (hrec_74 : ∀ (σ : gI) (τ : gJ) (x1 : Int32) (x2 : Int32) (x3 : Int32) (x4 : Int32) (x5 : Int32) (x6 : Int32) (x7 : Int32) (x8 : Int32) (x9 : Int32), QB 16 σ g → (0 ≤ x8.toInt) → ((2147483647 - x8.toInt).toNat < n_62 + 1) → (x8.toInt < 2147483647) → (0 ≤ x9.toInt) → (x8.toInt < (g 0).toInt) → (2147483647 - x9.toInt).toNat < n_74 → okp (fun (a : Int32) σ1 τ1 => QB 16 σ1 g) (rec_74 σ τ x1 x2 x3 x4 x5 x6 x7 x8 x9)) {σ : gI} {τ : gJ} {x1 : Int32} {x2 : Int32} {x3 : Int32} {x4 : Int32} {x5 : Int32} {x7 : Int32} {x8 : Int32} {x9 : Int32} {y0 : Int32} (hQ : QB 16 σ g) (h0_62 : 0 ≤ x8.toInt) (hm_62 : (2147483647 - x8.toInt).toNat < n_62 + 1) (hlt_62 : x8.toInt < 2147483647) (h0_74 : 0 ≤ x9.toInt) (hm_74 : (2147483647 - x9.toInt).toNat < n_74 + 1) (hlt_74 : x9.toInt < 2147483647) (h8 : x8.toInt < (g 0).toInt) (h9 : x9.toInt ≤ 9) : okp (fun (a : Int32) σ1 τ1 => QB 16 σ1 g) (B_X12_marks_126 N rec_62 rec_74 σ τ x1 x2 x3 x4 x5 x7 x8 x9 y0) := by
  unfold B_X12_marks_126
  have hg := qb_rng hQ
  have l_0 : (0 : Int32).toInt = 0 := rfl
  have l_1 : (1 : Int32).toInt = 1 := rfl
  have l_31 : (31 : Int32).toInt = 31 := rfl
  have r_x1 := i32_rng x1
  have r_x2 := i32_rng x2
  have r_x3 := i32_rng x3
  have r_x4 := i32_rng x4
  have r_x5 := i32_rng x5
  have r_x7 := i32_rng x7
  have r_x8 := i32_rng x8
  have r_x9 := i32_rng x9
  have r_y0 := i32_rng y0
  refine ok_ite (fun c_1 => ?_) (fun c_1 => ?_)
  · simp only [fa_lt, fa_le, fa_eq] at c_1
    refine ok_nm (fun v_2 e_2 => ?_)
    refine ok_nm (fun v_3 e_3 => ?_)
    refine ok_nm (fun v_4 e_4 => ?_)
    have u_4 : v_4.toInt = x9.toInt + (1 : Int32).toInt := by rw [e_4]; exact ti_add (by omega) (by omega)
    exact hrec_74 _ _ _ _ _ _ _ _ _ _ _ hQ (by omega) (by omega) (by omega) (by omega) (by omega) (by omega)
  · simp only [fa_lt, fa_le, fa_eq] at c_1
    refine ok_nm (fun v_5 e_5 => ?_)
    refine ok_nm (fun v_6 e_6 => ?_)
    refine ok_nm (fun v_7 e_7 => ?_)
    have u_7 : v_7.toInt = x9.toInt + (1 : Int32).toInt := by rw [e_7]; exact ti_add (by omega) (by omega)
    exact hrec_74 _ _ _ _ _ _ _ _ _ _ _ hQ (by omega) (by omega) (by omega) (by omega) (by omega) (by omega)
set_option maxHeartbeats 2000000 in
theorem w_C_X12_marks_74 (hN : 4294967296 ≤ N) {rec_62 : gI → gJ → Int32 → Int32 → Int32 → Int32 → Int32 → Int32 → Int32 → Int32 → Option (Int32 × gI × gJ)} {n_62 : Nat} (hrec_62 : ∀ (σ : gI) (τ : gJ) (x1 : Int32) (x2 : Int32) (x3 : Int32) (x4 : Int32) (x5 : Int32) (x6 : Int32) (x7 : Int32) (x8 : Int32), QB 16 σ g → (0 ≤ x8.toInt) → (2147483647 - x8.toInt).toNat < n_62 → okp (fun (a : Int32) σ1 τ1 => QB 16 σ1 g) (rec_62 σ τ x1 x2 x3 x4 x5 x6 x7 x8)) {rec_74 : gI → gJ → Int32 → Int32 → Int32 → Int32 → Int32 → Int32 → Int32 → Int32 → Int32 → Option (Int32 × gI × gJ)} {n_74 : Nat} (hrec_74 : ∀ (σ : gI) (τ : gJ) (x1 : Int32) (x2 : Int32) (x3 : Int32) (x4 : Int32) (x5 : Int32) (x6 : Int32) (x7 : Int32) (x8 : Int32) (x9 : Int32), QB 16 σ g → (0 ≤ x8.toInt) → ((2147483647 - x8.toInt).toNat < n_62 + 1) → (x8.toInt < 2147483647) → (0 ≤ x9.toInt) → (x8.toInt < (g 0).toInt) → (2147483647 - x9.toInt).toNat < n_74 → okp (fun (a : Int32) σ1 τ1 => QB 16 σ1 g) (rec_74 σ τ x1 x2 x3 x4 x5 x6 x7 x8 x9)) {σ : gI} {τ : gJ} {x1 : Int32} {x2 : Int32} {x3 : Int32} {x4 : Int32} {x5 : Int32} {x6 : Int32} {x7 : Int32} {x8 : Int32} {x9 : Int32} (hQ : QB 16 σ g) (h0_62 : 0 ≤ x8.toInt) (hm_62 : (2147483647 - x8.toInt).toNat < n_62 + 1) (hlt_62 : x8.toInt < 2147483647) (h0_74 : 0 ≤ x9.toInt) (hm_74 : (2147483647 - x9.toInt).toNat < n_74 + 1) (h8 : x8.toInt < (g 0).toInt) : okp (fun (a : Int32) σ1 τ1 => QB 16 σ1 g) (C_X12_marks_74 N rec_62 rec_74 σ τ x1 x2 x3 x4 x5 x6 x7 x8 x9) := by
  unfold C_X12_marks_74
  have hg := qb_rng hQ
  have l_0 : (0 : Int32).toInt = 0 := rfl
  have l_1 : (1 : Int32).toInt = 1 := rfl
  have l_3 : (3 : Int32).toInt = 3 := rfl
  have l_4 : (4 : Int32).toInt = 4 := rfl
  have l_9 : (9 : Int32).toInt = 9 := rfl
  have l_224 : (224 : Int32).toInt = 224 := rfl
  have r_x1 := i32_rng x1
  have r_x2 := i32_rng x2
  have r_x3 := i32_rng x3
  have r_x4 := i32_rng x4
  have r_x5 := i32_rng x5
  have r_x6 := i32_rng x6
  have r_x7 := i32_rng x7
  have r_x8 := i32_rng x8
  have r_x9 := i32_rng x9
  refine ok_ite (fun c_1 => ?_) (fun c_1 => ?_)
  · simp only [fa_lt, fa_le, fa_eq] at c_1
    refine ok_nm (fun v_2 e_2 => ?_)
    have u_2 : v_2.toInt = x8.toInt + (1 : Int32).toInt := by rw [e_2]; exact ti_add (by omega) (by omega)
    exact hrec_62 _ _ _ _ _ _ _ _ _ _ hQ (by omega) (by omega)
  · simp only [fa_lt, fa_le, fa_eq] at c_1
    refine ok_bd (w_B_X12_goesAlone_0 hN hQ (by omega)) (fun r_3 σ_3 τ_3 hp_3 => ?_)
    have hQ_3 : QB 16 σ_3 g := hp_3.1
    have g_3 := hp_3.2
    have r_r_3 := i32_rng r_3
    refine ok_ite (fun c_2 => ?_) (fun c_2 => ?_)
    · simp only [fa_lt, fa_le, fa_eq] at c_2
      refine ok_nm (fun v_5 e_5 => ?_)
      have u_5 : v_5.toInt = x9.toInt + (1 : Int32).toInt := by rw [e_5]; exact ti_add (by omega) (by omega)
      exact hrec_74 _ _ _ _ _ _ _ _ _ _ _ hQ_3 (by omega) (by omega) (by omega) (by omega) (by omega) (by omega)
    · simp only [fa_lt, fa_le, fa_eq] at c_2
      refine ok_ite (fun c_3 => ?_) (fun c_3 => ?_)
      · simp only [fa_lt, fa_le, fa_eq] at c_3
        refine ok_ite (fun c_4 => ?_) (fun c_4 => ?_)
        · simp only [fa_lt, fa_le, fa_eq] at c_4
          refine ok_ite (fun c_5 => ?_) (fun c_5 => ?_)
          · simp only [fa_lt, fa_le, fa_eq] at c_5
            exact w_B_X12_marks_126 hN hrec_62 hrec_74 hQ_3 (by omega) (by omega) (by omega) (by omega) (by omega) (by omega) (by omega) (by omega)
          · simp only [fa_lt, fa_le, fa_eq] at c_5
            exact w_B_X12_marks_126 hN hrec_62 hrec_74 hQ_3 (by omega) (by omega) (by omega) (by omega) (by omega) (by omega) (by omega) (by omega)
        · simp only [fa_lt, fa_le, fa_eq] at c_4
          refine ok_nm (fun v_9 e_9 => ?_)
          have u_9 : v_9.toInt = x9.toInt + (1 : Int32).toInt := by rw [e_9]; exact ti_add (by omega) (by omega)
          exact hrec_74 _ _ _ _ _ _ _ _ _ _ _ hQ_3 (by omega) (by omega) (by omega) (by omega) (by omega) (by omega)
      · simp only [fa_lt, fa_le, fa_eq] at c_3
        refine ok_nm (fun v_7 e_7 => ?_)
        have u_7 : v_7.toInt = x9.toInt + (1 : Int32).toInt := by rw [e_7]; exact ti_add (by omega) (by omega)
        exact hrec_74 _ _ _ _ _ _ _ _ _ _ _ hQ_3 (by omega) (by omega) (by omega) (by omega) (by omega) (by omega)
theorem w_H_X12_marks_74 (hN : 4294967296 ≤ N) {rec_62 : gI → gJ → Int32 → Int32 → Int32 → Int32 → Int32 → Int32 → Int32 → Int32 → Option (Int32 × gI × gJ)} {n_62 : Nat} (hrec_62 : ∀ (σ : gI) (τ : gJ) (x1 : Int32) (x2 : Int32) (x3 : Int32) (x4 : Int32) (x5 : Int32) (x6 : Int32) (x7 : Int32) (x8 : Int32), QB 16 σ g → (0 ≤ x8.toInt) → (2147483647 - x8.toInt).toNat < n_62 → okp (fun (a : Int32) σ1 τ1 => QB 16 σ1 g) (rec_62 σ τ x1 x2 x3 x4 x5 x6 x7 x8)) : ∀ (n : Nat) (σ : gI) (τ : gJ) (x1 : Int32) (x2 : Int32) (x3 : Int32) (x4 : Int32) (x5 : Int32) (x6 : Int32) (x7 : Int32) (x8 : Int32) (x9 : Int32), QB 16 σ g → (0 ≤ x8.toInt) → ((2147483647 - x8.toInt).toNat < n_62 + 1) → (x8.toInt < 2147483647) → (0 ≤ x9.toInt) → (x8.toInt < (g 0).toInt) → (2147483647 - x9.toInt).toNat < n → okp (fun (a : Int32) σ1 τ1 => QB 16 σ1 g) (H_X12_marks_74 N rec_62 n σ τ x1 x2 x3 x4 x5 x6 x7 x8 x9) := by
  intro n
  induction n with
  | zero => intro σ τ x1 x2 x3 x4 x5 x6 x7 x8 x9 _ _ _ _ _ _ hm; exact absurd hm (Nat.not_lt_zero _)
  | succ n ih =>
    intro σ τ x1 x2 x3 x4 x5 x6 x7 x8 x9 hQ h0_62 hm_62 hlt_62 h0_74 h8 hm
    exact w_C_X12_marks_74 hN hrec_62 ih hQ h0_62 hm_62 hlt_62 h0_74 hm h8
set_option maxHeartbeats 2000000 in
theorem w_C_X12_marks_62 (hN : 4294967296 ≤ N) {rec_62 : gI → gJ → Int32 → Int32 → Int32 → Int32 → Int32 → Int32 → Int32 → Int32 → Option (Int32 × gI × gJ)} {n_62 : Nat} (hrec_62 : ∀ (σ : gI) (τ : gJ) (x1 : Int32) (x2 : Int32) (x3 : Int32) (x4 : Int32) (x5 : Int32) (x6 : Int32) (x7 : Int32) (x8 : Int32), QB 16 σ g → (0 ≤ x8.toInt) → (2147483647 - x8.toInt).toNat < n_62 → okp (fun (a : Int32) σ1 τ1 => QB 16 σ1 g) (rec_62 σ τ x1 x2 x3 x4 x5 x6 x7 x8)) {σ : gI} {τ : gJ} {x1 : Int32} {x2 : Int32} {x3 : Int32} {x4 : Int32} {x5 : Int32} {x6 : Int32} {x7 : Int32} {x8 : Int32} (hQ : QB 16 σ g) (h0_62 : 0 ≤ x8.toInt) (hm_62 : (2147483647 - x8.toInt).toNat < n_62 + 1) : okp (fun (a : Int32) σ1 τ1 => QB 16 σ1 g) (C_X12_marks_62 N rec_62 σ τ x1 x2 x3 x4 x5 x6 x7 x8) := by
  unfold C_X12_marks_62
  have hg := qb_rng hQ
  have l_0 : (0 : Int32).toInt = 0 := rfl
  have l_1 : (1 : Int32).toInt = 1 := rfl
  have r_x1 := i32_rng x1
  have r_x2 := i32_rng x2
  have r_x3 := i32_rng x3
  have r_x4 := i32_rng x4
  have r_x5 := i32_rng x5
  have r_x6 := i32_rng x6
  have r_x7 := i32_rng x7
  have r_x8 := i32_rng x8
  have p_2 := qb_pl hQ
  refine ok_ite (fun c_1 => ?_) (fun c_1 => ?_)
  · simp only [fa_lt, fa_le, fa_eq] at c_1
    refine ok_nm (fun σ_2 e_2 => ?_)
    have hQ_2 := qb_r0 hQ e_2
    refine ok_ite (fun c_3 => ?_) (fun c_3 => ?_)
    · simp only [fa_lt, fa_le, fa_eq] at c_3
      refine ok_bd (w_B_X12_enters_0 hN hQ_2 (by omega)) (fun _ σ_4 τ_4 hp_4 => ?_)
      have hQ_4 : QB 1 σ_4 g := hp_4.1
      have g_4 := hp_4.2
      exact ok_r (qb_w hQ_4 (by omega))
    · simp only [fa_lt, fa_le, fa_eq] at c_3
      refine ok_bd (w_B_X12_enters_0 hN hQ_2 (by omega)) (fun _ σ_5 τ_5 hp_5 => ?_)
      have hQ_5 : QB 1 σ_5 g := hp_5.1
      have g_5 := hp_5.2
      refine ok_bd (w_B_X12_enters_0 hN hQ_5 (by omega)) (fun _ σ_6 τ_6 hp_6 => ?_)
      have hQ_6 : QB 2 σ_6 g := hp_6.1
      have g_6 := hp_6.2
      refine ok_bd (w_B_X12_enters_0 hN hQ_6 (by omega)) (fun _ σ_7 τ_7 hp_7 => ?_)
      have hQ_7 : QB 3 σ_7 g := hp_7.1
      have g_7 := hp_7.2
      exact ok_r (qb_w hQ_7 (by omega))
  · simp only [fa_lt, fa_le, fa_eq] at c_1
    exact w_H_X12_marks_74 hN hrec_62 N _ _ _ _ _ _ _ _ _ _ _ hQ (by omega) (by omega) (by omega) (by omega) (by omega) (by omega)
theorem w_H_X12_marks_62 (hN : 4294967296 ≤ N) : ∀ (n : Nat) (σ : gI) (τ : gJ) (x1 : Int32) (x2 : Int32) (x3 : Int32) (x4 : Int32) (x5 : Int32) (x6 : Int32) (x7 : Int32) (x8 : Int32), QB 16 σ g → (0 ≤ x8.toInt) → (2147483647 - x8.toInt).toNat < n → okp (fun (a : Int32) σ1 τ1 => QB 16 σ1 g) (H_X12_marks_62 N n σ τ x1 x2 x3 x4 x5 x6 x7 x8) := by
  intro n
  induction n with
  | zero => intro σ τ x1 x2 x3 x4 x5 x6 x7 x8 _ _ hm; exact absurd hm (Nat.not_lt_zero _)
  | succ n ih =>
    intro σ τ x1 x2 x3 x4 x5 x6 x7 x8 hQ h0_62 hm
    exact w_C_X12_marks_62 hN ih hQ h0_62 hm
set_option maxHeartbeats 2000000 in
theorem w_B_X12_marks_0 (hN : 4294967296 ≤ N) {σ : gI} {τ : gJ} {x1 : Int32} {x2 : Int32} {x3 : Int32} (hQ : QB 16 σ g) : okp (fun (a : Int32) σ1 τ1 => QB 16 σ1 g) (B_X12_marks_0 N σ τ x1 x2 x3) := by
  unfold B_X12_marks_0
  have hg := qb_rng hQ
  have l_m1 : (-1 : Int32).toInt = -1 := rfl
  have l_0 : (0 : Int32).toInt = 0 := rfl
  have l_1 : (1 : Int32).toInt = 1 := rfl
  have l_9 : (9 : Int32).toInt = 9 := rfl
  have l_99 : (99 : Int32).toInt = 99 := rfl
  have l_4095 : (4095 : Int32).toInt = 4095 := rfl
  have r_x1 := i32_rng x1
  have r_x2 := i32_rng x2
  have r_x3 := i32_rng x3
  refine ok_nm (fun σ_1 e_1 => ?_)
  have hQ_1 := qb_up hQ e_1 (by omega)
  refine ok_bd (w_B_X12_in_0 hN) (fun r_2 σ_2 τ_2 hp_2 => ?_)
  obtain ⟨h9_2, g_2⟩ := hp_2
  subst h9_2
  have k_2 := g_2.2; simp only [Int32.toInt_toInt64, show (0 : Int64).toInt = 0 from rfl, show (99 : Int64).toInt = 99 from rfl] at k_2
  have r_r_2 := i32_rng r_2
  refine ok_ite (fun c_1 => ?_) (fun c_1 => ?_)
  · simp only [fa_lt, fa_le, fa_eq] at c_1
    exact ok_r (qb_w hQ_1 (by omega))
  · simp only [fa_lt, fa_le, fa_eq] at c_1
    refine ok_bd (w_B_X12_in_0 hN) (fun r_4 σ_4 τ_4 hp_4 => ?_)
    obtain ⟨h9_4, g_4⟩ := hp_4
    subst h9_4
    have k_4 := g_4.2; simp only [Int32.toInt_toInt64, show (0 : Int64).toInt = 0 from rfl, show (9 : Int64).toInt = 9 from rfl] at k_4
    have r_r_4 := i32_rng r_4
    refine ok_ite (fun c_2 => ?_) (fun c_2 => ?_)
    · simp only [fa_lt, fa_le, fa_eq] at c_2
      exact ok_r (qb_w hQ_1 (by omega))
    · simp only [fa_lt, fa_le, fa_eq] at c_2
      refine ok_bd (w_B_X12_in_0 hN) (fun r_6 σ_6 τ_6 hp_6 => ?_)
      obtain ⟨h9_6, g_6⟩ := hp_6
      subst h9_6
      have k_6 := g_6.2; simp only [Int32.toInt_toInt64, show (0 : Int64).toInt = 0 from rfl, show (4095 : Int64).toInt = 4095 from rfl] at k_6
      have r_r_6 := i32_rng r_6
      refine ok_ite (fun c_3 => ?_) (fun c_3 => ?_)
      · simp only [fa_lt, fa_le, fa_eq] at c_3
        exact ok_r (qb_w hQ_1 (by omega))
      · simp only [fa_lt, fa_le, fa_eq] at c_3
        refine ok_bd (w_B_X12_thinksNow_0 hN hQ_1) (fun _ σ_8 τ_8 hp_8 => ?_)
        have hQ_8 : QB 16 σ_8 g := hp_8
        exact w_H_X12_marks_62 hN N _ _ _ _ _ _ _ _ _ _ hQ_8 (by omega) (by omega)
set_option maxHeartbeats 2000000 in
theorem w_B_X12_count_0 (hN : 4294967296 ≤ N) {σ : gI} {τ : gJ} {x1 : Int32} (hQ : QB 16 σ g) : okp (fun (a : Int32) σ1 τ1 => QB 16 σ1 g) (B_X12_count_0 N σ τ x1) := by
  unfold B_X12_count_0
  have hg := qb_rng hQ
  have l_m100 : (-100 : Int32).toInt = -100 := rfl
  have l_0 : (0 : Int32).toInt = 0 := rfl
  have l_1 : (1 : Int32).toInt = 1 := rfl
  have l_2 : (2 : Int32).toInt = 2 := rfl
  have l_3 : (3 : Int32).toInt = 3 := rfl
  have l_4 : (4 : Int32).toInt = 4 := rfl
  have l_5 : (5 : Int32).toInt = 5 := rfl
  have l_6 : (6 : Int32).toInt = 6 := rfl
  have l_7 : (7 : Int32).toInt = 7 := rfl
  have l_8 : (8 : Int32).toInt = 8 := rfl
  have l_9 : (9 : Int32).toInt = 9 := rfl
  have l_10 : (10 : Int32).toInt = 10 := rfl
  have l_11 : (11 : Int32).toInt = 11 := rfl
  have l_13 : (13 : Int32).toInt = 13 := rfl
  have l_36 : (36 : Int32).toInt = 36 := rfl
  have l_42 : (42 : Int32).toInt = 42 := rfl
  have l_43 : (43 : Int32).toInt = 43 := rfl
  have l_44 : (44 : Int32).toInt = 44 := rfl
  have l_52 : (52 : Int32).toInt = 52 := rfl
  have l_199 : (199 : Int32).toInt = 199 := rfl
  have l_206 : (206 : Int32).toInt = 206 := rfl
  have r_x1 := i32_rng x1
  refine ok_nm (fun σ_1 e_1 => ?_)
  have hQ_1 := qb_up hQ e_1 (by omega)
  refine ok_ite (fun c_1 => ?_) (fun c_1 => ?_)
  · simp only [fa_lt, fa_le, fa_eq] at c_1
    exact ok_r (qb_w hQ_1 (by omega))
  · simp only [fa_lt, fa_le, fa_eq] at c_1
    refine ok_ite (fun c_2 => ?_) (fun c_2 => ?_)
    · simp only [fa_lt, fa_le, fa_eq] at c_2
      exact ok_r (qb_w hQ_1 (by omega))
    · simp only [fa_lt, fa_le, fa_eq] at c_2
      refine ok_ite (fun c_3 => ?_) (fun c_3 => ?_)
      · simp only [fa_lt, fa_le, fa_eq] at c_3
        exact ok_r (qb_w hQ_1 (by omega))
      · simp only [fa_lt, fa_le, fa_eq] at c_3
        refine ok_ite (fun c_4 => ?_) (fun c_4 => ?_)
        · simp only [fa_lt, fa_le, fa_eq] at c_4
          refine ok_bd (w_B_X12_forks_0 hN hQ_1) (fun r_6 σ_6 τ_6 hp_6 => ?_)
          obtain ⟨h9_6, g_6⟩ := hp_6
          subst h9_6
          have r_r_6 := i32_rng r_6
          exact ok_r (qb_w hQ_1 (by omega))
        · simp only [fa_lt, fa_le, fa_eq] at c_4
          refine ok_ite (fun c_5 => ?_) (fun c_5 => ?_)
          · simp only [fa_lt, fa_le, fa_eq] at c_5
            exact ok_r (qb_w hQ_1 (by omega))
          · simp only [fa_lt, fa_le, fa_eq] at c_5
            refine ok_ite (fun c_6 => ?_) (fun c_6 => ?_)
            · simp only [fa_lt, fa_le, fa_eq] at c_6
              refine ok_bd (w_those6 hN hQ_1) (fun r_9 σ_9 τ_9 hp_9 => ?_)
              obtain ⟨h9_9, g_9⟩ := hp_9
              subst h9_9
              have r_r_9 := i32_rng r_9
              exact ok_r (qb_w hQ_1 (by omega))
            · simp only [fa_lt, fa_le, fa_eq] at c_6
              refine ok_ite (fun c_7 => ?_) (fun c_7 => ?_)
              · simp only [fa_lt, fa_le, fa_eq] at c_7
                refine ok_bd (w_those6 hN hQ_1) (fun r_11 σ_11 τ_11 hp_11 => ?_)
                obtain ⟨h9_11, g_11⟩ := hp_11
                subst h9_11
                have r_r_11 := i32_rng r_11
                exact ok_r (qb_w hQ_1 (by omega))
              · simp only [fa_lt, fa_le, fa_eq] at c_7
                refine ok_ite (fun c_8 => ?_) (fun c_8 => ?_)
                · simp only [fa_lt, fa_le, fa_eq] at c_8
                  refine ok_bd (w_those6 hN hQ_1) (fun r_13 σ_13 τ_13 hp_13 => ?_)
                  obtain ⟨h9_13, g_13⟩ := hp_13
                  subst h9_13
                  have r_r_13 := i32_rng r_13
                  exact ok_r (qb_w hQ_1 (by omega))
                · simp only [fa_lt, fa_le, fa_eq] at c_8
                  refine ok_ite (fun c_9 => ?_) (fun c_9 => ?_)
                  · simp only [fa_lt, fa_le, fa_eq] at c_9
                    exact ok_r (qb_w hQ_1 (by omega))
                  · simp only [fa_lt, fa_le, fa_eq] at c_9
                    refine ok_ite (fun c_10 => ?_) (fun c_10 => ?_)
                    · simp only [fa_lt, fa_le, fa_eq] at c_10
                      exact ok_r (qb_w hQ_1 (by omega))
                    · simp only [fa_lt, fa_le, fa_eq] at c_10
                      refine ok_ite (fun c_11 => ?_) (fun c_11 => ?_)
                      · simp only [fa_lt, fa_le, fa_eq] at c_11
                        exact ok_r (qb_w hQ_1 (by omega))
                      · simp only [fa_lt, fa_le, fa_eq] at c_11
                        refine ok_ite (fun c_12 => ?_) (fun c_12 => ?_)
                        · simp only [fa_lt, fa_le, fa_eq] at c_12
                          exact ok_r (qb_w hQ_1 (by omega))
                        · simp only [fa_lt, fa_le, fa_eq] at c_12
                          exact ok_r (qb_w hQ_1 (by omega))
set_option maxHeartbeats 2000000 in
theorem w_C_X12_place_109 (hN : 4294967296 ≤ N) {rec_109 : gI → gJ → Int32 → Int32 → Int32 → Option (Int32 × gI × gJ)} {n_109 : Nat} (hrec_109 : ∀ (σ : gI) (τ : gJ) (x1 : Int32) (x3 : Int32) (x4 : Int32), QB 16 σ g → (0 ≤ x4.toInt) → (2147483647 - x4.toInt).toNat < n_109 → okp (fun (a : Int32) σ1 τ1 => QB 16 σ1 g) (rec_109 σ τ x1 x3 x4)) {σ : gI} {τ : gJ} {x1 : Int32} {x3 : Int32} {x4 : Int32} (hQ : QB 16 σ g) (h0_109 : 0 ≤ x4.toInt) (hm_109 : (2147483647 - x4.toInt).toNat < n_109 + 1) : okp (fun (a : Int32) σ1 τ1 => QB 16 σ1 g) (C_X12_place_109 N rec_109 σ τ x1 x3 x4) := by
  unfold C_X12_place_109
  have hg := qb_rng hQ
  have l_0 : (0 : Int32).toInt = 0 := rfl
  have l_1 : (1 : Int32).toInt = 1 := rfl
  have l_4 : (4 : Int32).toInt = 4 := rfl
  have l_7 : (7 : Int32).toInt = 7 := rfl
  have l_31 : (31 : Int32).toInt = 31 := rfl
  have l_45 : (45 : Int32).toInt = 45 := rfl
  have l_206 : (206 : Int32).toInt = 206 := rfl
  have r_x1 := i32_rng x1
  have r_x3 := i32_rng x3
  have r_x4 := i32_rng x4
  have p_2 := qb_M hQ
  refine ok_ite (fun c_1 => ?_) (fun c_1 => ?_)
  · simp only [fa_lt, fa_le, fa_eq] at c_1
    exact ok_r (qb_w hQ (by omega))
  · simp only [fa_lt, fa_le, fa_eq] at c_1
    have i_2 := ti_7k (x := x4) (k := 4) (by omega) (by omega)
    refine ok_ck ⟨by omega, by omega⟩ (fun j_2 hj_2 lj_2 => ?_)
    refine ok_ite (fun c_3 => ?_) (fun c_3 => ?_)
    · simp only [fa_lt, fa_le, fa_eq] at c_3
      have i_6 := ti_7k (x := x4) (k := 0) (by omega) (by omega)
      refine ok_ck ⟨by omega, by omega⟩ (fun j_6 hj_6 lj_6 => ?_)
      refine ok_ite (fun c_4 => ?_) (fun c_4 => ?_)
      · simp only [fa_lt, fa_le, fa_eq] at c_4
        refine ok_nm (fun v_10 e_10 => ?_)
        refine ok_nm (fun v_11 e_11 => ?_)
        have u_11 : v_11.toInt = x4.toInt + (1 : Int32).toInt := by rw [e_11]; exact ti_add (by omega) (by omega)
        exact hrec_109 _ _ _ _ _ hQ (by omega) (by omega)
      · simp only [fa_lt, fa_le, fa_eq] at c_4
        refine ok_nm (fun v_8 e_8 => ?_)
        refine ok_nm (fun v_9 e_9 => ?_)
        have u_9 : v_9.toInt = x4.toInt + (1 : Int32).toInt := by rw [e_9]; exact ti_add (by omega) (by omega)
        exact hrec_109 _ _ _ _ _ hQ (by omega) (by omega)
    · simp only [fa_lt, fa_le, fa_eq] at c_3
      refine ok_nm (fun v_4 e_4 => ?_)
      refine ok_nm (fun v_5 e_5 => ?_)
      have u_5 : v_5.toInt = x4.toInt + (1 : Int32).toInt := by rw [e_5]; exact ti_add (by omega) (by omega)
      exact hrec_109 _ _ _ _ _ hQ (by omega) (by omega)
theorem w_H_X12_place_109 (hN : 4294967296 ≤ N) : ∀ (n : Nat) (σ : gI) (τ : gJ) (x1 : Int32) (x3 : Int32) (x4 : Int32), QB 16 σ g → (0 ≤ x4.toInt) → (2147483647 - x4.toInt).toNat < n → okp (fun (a : Int32) σ1 τ1 => QB 16 σ1 g) (H_X12_place_109 N n σ τ x1 x3 x4) := by
  intro n
  induction n with
  | zero => intro σ τ x1 x3 x4 _ _ hm; exact absurd hm (Nat.not_lt_zero _)
  | succ n ih =>
    intro σ τ x1 x3 x4 hQ h0_109 hm
    exact w_C_X12_place_109 hN ih hQ h0_109 hm
set_option maxHeartbeats 2000000 in
theorem w_B_X12_place_0 (hN : 4294967296 ≤ N) {σ : gI} {τ : gJ} {x1 : Int32} {x2 : Int32} (hQ : QB 16 σ g) : okp (fun (a : Int32) σ1 τ1 => QB 16 σ1 g) (B_X12_place_0 N σ τ x1 x2) := by
  unfold B_X12_place_0
  have hg := qb_rng hQ
  have l_0 : (0 : Int32).toInt = 0 := rfl
  have l_1 : (1 : Int32).toInt = 1 := rfl
  have l_2 : (2 : Int32).toInt = 2 := rfl
  have l_3 : (3 : Int32).toInt = 3 := rfl
  have l_4 : (4 : Int32).toInt = 4 := rfl
  have l_5 : (5 : Int32).toInt = 5 := rfl
  have l_12 : (12 : Int32).toInt = 12 := rfl
  have l_31 : (31 : Int32).toInt = 31 := rfl
  have l_42 : (42 : Int32).toInt = 42 := rfl
  have l_201 : (201 : Int32).toInt = 201 := rfl
  have l_202 : (202 : Int32).toInt = 202 := rfl
  have l_203 : (203 : Int32).toInt = 203 := rfl
  have l_204 : (204 : Int32).toInt = 204 := rfl
  have l_206 : (206 : Int32).toInt = 206 := rfl
  have r_x1 := i32_rng x1
  have r_x2 := i32_rng x2
  refine ok_nm (fun σ_1 e_1 => ?_)
  have hQ_1 := qb_up hQ e_1 (by omega)
  refine ok_bd (w_B_X12_isPlace_0 hN hQ_1) (fun r_2 σ_2 τ_2 hp_2 => ?_)
  obtain ⟨h9_2, g_2⟩ := hp_2
  subst h9_2
  have r_r_2 := i32_rng r_2
  refine ok_ite (fun c_1 => ?_) (fun c_1 => ?_)
  · simp only [fa_lt, fa_le, fa_eq] at c_1
    refine ok_bd (w_B_X12_refuse_0 hN hQ_1) (fun r_4 σ_4 τ_4 hp_4 => ?_)
    have hQ_4 : QB 16 σ_4 g := hp_4
    have r_r_4 := i32_rng r_4
    exact ok_r (qb_w hQ_4 (by omega))
  · simp only [fa_lt, fa_le, fa_eq] at c_1
    refine ok_bd (w_B_X12_in_0 hN) (fun r_5 σ_5 τ_5 hp_5 => ?_)
    obtain ⟨h9_5, g_5⟩ := hp_5
    subst h9_5
    have k_5 := g_5.2; simp only [Int32.toInt_toInt64, show (0 : Int64).toInt = 0 from rfl, show (5 : Int64).toInt = 5 from rfl] at k_5
    have r_r_5 := i32_rng r_5
    refine ok_ite (fun c_2 => ?_) (fun c_2 => ?_)
    · simp only [fa_lt, fa_le, fa_eq] at c_2
      refine ok_bd (w_B_X12_refuse_0 hN hQ_1) (fun r_16 σ_16 τ_16 hp_16 => ?_)
      have hQ_16 : QB 16 σ_16 g := hp_16
      have r_r_16 := i32_rng r_16
      exact ok_r (qb_w hQ_16 (by omega))
    · simp only [fa_lt, fa_le, fa_eq] at c_2
      refine ok_ite (fun c_3 => ?_) (fun c_3 => ?_)
      · simp only [fa_lt, fa_le, fa_eq] at c_3
        refine ok_ck ⟨by omega, by omega⟩ (fun j_8 hj_8 lj_8 => ?_)
        exact ok_r (qb_w hQ_1 (by omega))
      · simp only [fa_lt, fa_le, fa_eq] at c_3
        refine ok_ite (fun c_4 => ?_) (fun c_4 => ?_)
        · simp only [fa_lt, fa_le, fa_eq] at c_4
          refine ok_ck ⟨by omega, by omega⟩ (fun j_10 hj_10 lj_10 => ?_)
          exact ok_r (qb_w hQ_1 (by omega))
        · simp only [fa_lt, fa_le, fa_eq] at c_4
          refine ok_ite (fun c_5 => ?_) (fun c_5 => ?_)
          · simp only [fa_lt, fa_le, fa_eq] at c_5
            refine ok_ck ⟨by omega, by omega⟩ (fun j_12 hj_12 lj_12 => ?_)
            exact ok_r (qb_w hQ_1 (by omega))
          · simp only [fa_lt, fa_le, fa_eq] at c_5
            refine ok_ite (fun c_6 => ?_) (fun c_6 => ?_)
            · simp only [fa_lt, fa_le, fa_eq] at c_6
              exact ok_r (qb_w hQ_1 (by omega))
            · simp only [fa_lt, fa_le, fa_eq] at c_6
              refine ok_ite (fun c_7 => ?_) (fun c_7 => ?_)
              · simp only [fa_lt, fa_le, fa_eq] at c_7
                refine ok_ck ⟨by omega, by omega⟩ (fun j_15 hj_15 lj_15 => ?_)
                exact ok_r (qb_w hQ_1 (by omega))
              · simp only [fa_lt, fa_le, fa_eq] at c_7
                exact w_H_X12_place_109 hN N _ _ _ _ _ hQ_1 (by omega) (by omega)
set_option maxHeartbeats 2000000 in
theorem w_C_X12_lost_41 (hN : 4294967296 ≤ N) {rec_41 : gI → gJ → Int32 → Int32 → Int32 → Option (Int32 × gI × gJ)} {n_41 : Nat} (hrec_41 : ∀ (σ : gI) (τ : gJ) (x1 : Int32) (x2 : Int32) (x3 : Int32), QB 16 σ g → (0 ≤ x3.toInt) → (x1.toInt ≤ 300) → (GQ σ 207 (g 1) (1000000000 + x3.toInt)) → (2147483647 - x3.toInt).toNat < n_41 → okp (fun (a : Int32) σ1 τ1 => QB 16 σ1 g) (rec_41 σ τ x1 x2 x3)) {σ : gI} {τ : gJ} {x1 : Int32} {x2 : Int32} {x3 : Int32} (hQ : QB 16 σ g) (h0_41 : 0 ≤ x3.toInt) (hm_41 : (2147483647 - x3.toInt).toNat < n_41 + 1) (hn : x1.toInt ≤ 300) (hG : GQ σ 207 (g 1) (1000000000 + x3.toInt)) : okp (fun (a : Int32) σ1 τ1 => QB 16 σ1 g) (C_X12_lost_41 N rec_41 σ τ x1 x2 x3) := by
  unfold C_X12_lost_41
  have hg := qb_rng hQ
  have l_m2 : (-2 : Int32).toInt = -2 := rfl
  have l_m1 : (-1 : Int32).toInt = -1 := rfl
  have l_0 : (0 : Int32).toInt = 0 := rfl
  have l_1 : (1 : Int32).toInt = 1 := rfl
  have l_2 : (2 : Int32).toInt = 2 := rfl
  have l_7 : (7 : Int32).toInt = 7 := rfl
  have l_45 : (45 : Int32).toInt = 45 := rfl
  have l_199 : (199 : Int32).toInt = 199 := rfl
  have l_207 : (207 : Int32).toInt = 207 := rfl
  have r_x1 := i32_rng x1
  have r_x2 := i32_rng x2
  have r_x3 := i32_rng x3
  refine ok_ite (fun c_1 => ?_) (fun c_1 => ?_)
  · simp only [fa_lt, fa_le, fa_eq] at c_1
    exact ok_r (qb_w hQ (by omega))
  · simp only [fa_lt, fa_le, fa_eq] at c_1
    refine ok_bd (w_minute hN hQ hG (by omega) (by omega) (by omega)) (fun _ σ_2 τ_2 hp_2 => ?_)
    have hQ_2 : QB 16 σ_2 g := hp_2.1
    have g_2 := hp_2.2
    have hG_2 := hp_2.2
    refine ok_bd (w_B_X12_thoseHow_0 hN hG_2 (by omega)) (fun r_3 σ_3 τ_3 hp_3 => ?_)
    obtain ⟨h9_3, g_3⟩ := hp_3
    subst h9_3
    have r_r_3 := i32_rng r_3
    refine ok_nm (fun v_4 e_4 => ?_)
    have w_4 := and_rg (a := r_3) (b := x2 ^^^ (-1)) 6 (by omega) (by omega); rw [← e_4] at w_4
    refine ok_ite (fun c_2 => ?_) (fun c_2 => ?_)
    · simp only [fa_lt, fa_le, fa_eq] at c_2
      refine ok_nm (fun v_6 e_6 => ?_)
      have u_6 : v_6.toInt = x3.toInt + (1 : Int32).toInt := by rw [e_6]; exact ti_add (by omega) (by omega)
      exact hrec_41 _ _ _ _ _ hQ_2 (by omega) (by omega) (gq_w hG_2 (by omega)) (by omega)
    · simp only [fa_lt, fa_le, fa_eq] at c_2
      refine ok_bd (w_B_J6_numberOfTrailingZeros_0f7a4_0 hN (by omega)) (fun r_7 σ_7 τ_7 hp_7 => ?_)
      obtain ⟨h9_7, g_7⟩ := hp_7
      subst h9_7
      have r_r_7 := i32_rng r_7
      refine ok_nm (fun σ_8 e_8 => ?_)
      have hQ_8 := qb_r0 hQ_2 e_8
      have hG_8 := gq_up hG_2 e_8 (by omega)
      refine ok_bd (w_B_X12_enters_0 hN hQ_8 (by omega)) (fun _ σ_9 τ_9 hp_9 => ?_)
      have hQ_9 : QB 1 σ_9 g := hp_9.1
      have g_9 := hp_9.2
      have hG_9 := gq_fr hG_8 (fun c k h => hp_9.2 c k (by omega))
      have i_10 := ti_7k (x := r_7) (k := 0) (by omega) (by omega)
      refine ok_ck ⟨by omega, by omega⟩ (fun j_10 hj_10 lj_10 => ?_)
      refine ok_bd (w_B_X12_enters_0 hN hQ_9 (by omega)) (fun _ σ_11 τ_11 hp_11 => ?_)
      have hQ_11 : QB 2 σ_11 g := hp_11.1
      have g_11 := hp_11.2
      have hG_11 := gq_fr hG_9 (fun c k h => hp_11.2 c k (by omega))
      exact ok_r (qb_w hQ_11 (by omega))
theorem w_H_X12_lost_41 (hN : 4294967296 ≤ N) : ∀ (n : Nat) (σ : gI) (τ : gJ) (x1 : Int32) (x2 : Int32) (x3 : Int32), QB 16 σ g → (0 ≤ x3.toInt) → (x1.toInt ≤ 300) → (GQ σ 207 (g 1) (1000000000 + x3.toInt)) → (2147483647 - x3.toInt).toNat < n → okp (fun (a : Int32) σ1 τ1 => QB 16 σ1 g) (H_X12_lost_41 N n σ τ x1 x2 x3) := by
  intro n
  induction n with
  | zero => intro σ τ x1 x2 x3 _ _ _ _ hm; exact absurd hm (Nat.not_lt_zero _)
  | succ n ih =>
    intro σ τ x1 x2 x3 hQ h0_41 hn hG hm
    exact w_C_X12_lost_41 hN ih hQ h0_41 hm hn hG
set_option maxHeartbeats 2000000 in
theorem w_B_X12_lost_0 (hN : 4294967296 ≤ N) {σ : gI} {τ : gJ} {x1 : Int32} (hQ : QB 16 σ g) : okp (fun (a : Int32) σ1 τ1 => QB 16 σ1 g) (B_X12_lost_0 N σ τ x1) := by
  unfold B_X12_lost_0
  have hg := qb_rng hQ
  have l_m1 : (-1 : Int32).toInt = -1 := rfl
  have l_0 : (0 : Int32).toInt = 0 := rfl
  have l_1 : (1 : Int32).toInt = 1 := rfl
  have l_2 : (2 : Int32).toInt = 2 := rfl
  have l_207 : (207 : Int32).toInt = 207 := rfl
  have l_300 : (300 : Int32).toInt = 300 := rfl
  have r_x1 := i32_rng x1
  refine ok_nm (fun σ_1 e_1 => ?_)
  have hQ_1 := qb_up hQ e_1 (by omega)
  refine ok_bd (w_B_X12_in_0 hN) (fun r_2 σ_2 τ_2 hp_2 => ?_)
  obtain ⟨h9_2, g_2⟩ := hp_2
  subst h9_2
  have k_2 := g_2.2; simp only [Int32.toInt_toInt64, show (0 : Int64).toInt = 0 from rfl, show (300 : Int64).toInt = 300 from rfl] at k_2
  have r_r_2 := i32_rng r_2
  refine ok_ite (fun c_1 => ?_) (fun c_1 => ?_)
  · simp only [fa_lt, fa_le, fa_eq] at c_1
    exact ok_r (qb_w hQ_1 (by omega))
  · simp only [fa_lt, fa_le, fa_eq] at c_1
    refine ok_bd (w_B_X12_puts_0 hN hQ_1) (fun _ σ_4 τ_4 hp_4 => ?_)
    have hQ_4 : QB 16 σ_4 g := hp_4.1
    have g_4 := hp_4.2
    have hG_4 := hp_4.2
    refine ok_bd (w_B_X12_thoseHow_0 hN hG_4 (by omega)) (fun r_5 σ_5 τ_5 hp_5 => ?_)
    obtain ⟨h9_5, g_5⟩ := hp_5
    subst h9_5
    have r_r_5 := i32_rng r_5
    exact w_H_X12_lost_41 hN N _ _ _ _ _ hQ_4 (by omega) (by omega) (gq_w hG_4 (by omega)) (by omega)
set_option maxHeartbeats 2000000 in
theorem w_B_X12_round_132 (hN : 4294967296 ≤ N) {σ : gI} {τ : gJ} {x2 : Int32} {x3 : Int32} (hQ : QB 16 σ g) : okp (fun (a : Int32) σ1 τ1 => QB 16 σ1 g) (B_X12_round_132 N σ τ x2 x3) := by
  unfold B_X12_round_132
  have hg := qb_rng hQ
  have l_m2 : (-2 : Int32).toInt = -2 := rfl
  have l_0 : (0 : Int32).toInt = 0 := rfl
  have l_1 : (1 : Int32).toInt = 1 := rfl
  have l_199 : (199 : Int32).toInt = 199 := rfl
  have r_x2 := i32_rng x2
  have r_x3 := i32_rng x3
  refine ok_nm (fun σ_1 e_1 => ?_)
  have hQ_1 := qb_up hQ e_1 (by omega)
  refine ok_ite (fun c_1 => ?_) (fun c_1 => ?_)
  · simp only [fa_lt, fa_le, fa_eq] at c_1
    refine ok_nm (fun σ_3 e_3 => ?_)
    have hQ_3 := qb_r0 hQ_1 e_3
    refine ok_bd (w_B_X12_enters_0 hN hQ_3 (by omega)) (fun _ σ_4 τ_4 hp_4 => ?_)
    have hQ_4 : QB 1 σ_4 g := hp_4.1
    have g_4 := hp_4.2
    exact ok_r (qb_w hQ_4 (by omega))
  · simp only [fa_lt, fa_le, fa_eq] at c_1
    exact ok_r (qb_w hQ_1 (by omega))
set_option maxHeartbeats 2000000 in
theorem w_C_X12_round_51 (hN : 4294967296 ≤ N) {rec_51 : gI → gJ → Int32 → Int32 → Int32 → Int32 → Option (Int32 × gI × gJ)} {n_51 : Nat} (hrec_51 : ∀ (σ : gI) (τ : gJ) (x1 : Int32) (x2 : Int32) (x3 : Int32) (x4 : Int32), QB 16 σ g → (0 ≤ x4.toInt) → (GQ σ 224 1 (1000000000 + x4.toInt)) → (2147483647 - x4.toInt).toNat < n_51 → okp (fun (a : Int32) σ1 τ1 => QB 16 σ1 g) (rec_51 σ τ x1 x2 x3 x4)) {σ : gI} {τ : gJ} {x1 : Int32} {x2 : Int32} {x3 : Int32} {x4 : Int32} (hQ : QB 16 σ g) (h0_51 : 0 ≤ x4.toInt) (hm_51 : (2147483647 - x4.toInt).toNat < n_51 + 1) (hG : GQ σ 224 1 (1000000000 + x4.toInt)) : okp (fun (a : Int32) σ1 τ1 => QB 16 σ1 g) (C_X12_round_51 N rec_51 σ τ x1 x2 x3 x4) := by
  unfold C_X12_round_51
  have hg := qb_rng hQ
  have l_0 : (0 : Int32).toInt = 0 := rfl
  have l_1 : (1 : Int32).toInt = 1 := rfl
  have l_4 : (4 : Int32).toInt = 4 := rfl
  have l_34 : (34 : Int32).toInt = 34 := rfl
  have l_199 : (199 : Int32).toInt = 199 := rfl
  have l_224 : (224 : Int32).toInt = 224 := rfl
  have l_300 : (300 : Int32).toInt = 300 := rfl
  have r_x1 := i32_rng x1
  have r_x2 := i32_rng x2
  have r_x3 := i32_rng x3
  have r_x4 := i32_rng x4
  refine ok_ite (fun c_1 => ?_) (fun c_1 => ?_)
  · simp only [fa_lt, fa_le, fa_eq] at c_1
    exact w_B_X12_round_132 hN hQ
  · simp only [fa_lt, fa_le, fa_eq] at c_1
    refine ok_ite (fun c_2 => ?_) (fun c_2 => ?_)
    · simp only [fa_lt, fa_le, fa_eq] at c_2
      exact w_B_X12_round_132 hN hQ
    · simp only [fa_lt, fa_le, fa_eq] at c_2
      refine ok_bd (w_minute hN hQ hG (by omega) (by omega) (by omega)) (fun _ σ_3 τ_3 hp_3 => ?_)
      have hQ_3 : QB 16 σ_3 g := hp_3.1
      have g_3 := hp_3.2
      have hG_3 := hp_3.2
      refine ok_ite (fun c_3 => ?_) (fun c_3 => ?_)
      · simp only [fa_lt, fa_le, fa_eq] at c_3
        refine ok_nm (fun v_5 e_5 => ?_)
        have u_5 : v_5.toInt = x4.toInt + (1 : Int32).toInt := by rw [e_5]; exact ti_add (by omega) (by omega)
        exact hrec_51 _ _ _ _ _ _ hQ_3 (by omega) (gq_w hG_3 (by omega)) (by omega)
      · simp only [fa_lt, fa_le, fa_eq] at c_3
        refine ok_ite (fun c_4 => ?_) (fun c_4 => ?_)
        · simp only [fa_lt, fa_le, fa_eq] at c_4
          refine ok_ite (fun c_5 => ?_) (fun c_5 => ?_)
          · simp only [fa_lt, fa_le, fa_eq] at c_5
            refine ok_ite (fun c_6 => ?_) (fun c_6 => ?_)
            · simp only [fa_lt, fa_le, fa_eq] at c_6
              refine ok_nm (fun v_11 e_11 => ?_)
              refine ok_ite (fun c_7 => ?_) (fun c_7 => ?_)
              · simp only [fa_lt, fa_le, fa_eq] at c_7
                refine ok_nm (fun σ_13 e_13 => ?_)
                have hQ_13 := qb_up hQ_3 e_13 (by omega)
                have hG_13 := gq_up hG_3 e_13 (by omega)
                refine ok_nm (fun v_14 e_14 => ?_)
                have u_14 : v_14.toInt = x4.toInt + (1 : Int32).toInt := by rw [e_14]; exact ti_add (by omega) (by omega)
                exact hrec_51 _ _ _ _ _ _ hQ_13 (by omega) (gq_w hG_13 (by omega)) (by omega)
              · simp only [fa_lt, fa_le, fa_eq] at c_7
                refine ok_nm (fun σ_15 e_15 => ?_)
                have hQ_15 := qb_up hQ_3 e_15 (by omega)
                have hG_15 := gq_up hG_3 e_15 (by omega)
                refine ok_nm (fun v_16 e_16 => ?_)
                have u_16 : v_16.toInt = x4.toInt + (1 : Int32).toInt := by rw [e_16]; exact ti_add (by omega) (by omega)
                exact hrec_51 _ _ _ _ _ _ hQ_15 (by omega) (gq_w hG_15 (by omega)) (by omega)
            · simp only [fa_lt, fa_le, fa_eq] at c_6
              refine ok_ite (fun c_8 => ?_) (fun c_8 => ?_)
              · simp only [fa_lt, fa_le, fa_eq] at c_8
                refine ok_nm (fun σ_18 e_18 => ?_)
                have hQ_18 := qb_up hQ_3 e_18 (by omega)
                have hG_18 := gq_up hG_3 e_18 (by omega)
                refine ok_nm (fun v_19 e_19 => ?_)
                have u_19 : v_19.toInt = x4.toInt + (1 : Int32).toInt := by rw [e_19]; exact ti_add (by omega) (by omega)
                exact hrec_51 _ _ _ _ _ _ hQ_18 (by omega) (gq_w hG_18 (by omega)) (by omega)
              · simp only [fa_lt, fa_le, fa_eq] at c_8
                refine ok_nm (fun σ_20 e_20 => ?_)
                have hQ_20 := qb_up hQ_3 e_20 (by omega)
                have hG_20 := gq_up hG_3 e_20 (by omega)
                refine ok_nm (fun v_21 e_21 => ?_)
                have u_21 : v_21.toInt = x4.toInt + (1 : Int32).toInt := by rw [e_21]; exact ti_add (by omega) (by omega)
                exact hrec_51 _ _ _ _ _ _ hQ_20 (by omega) (gq_w hG_20 (by omega)) (by omega)
          · simp only [fa_lt, fa_le, fa_eq] at c_5
            refine ok_nm (fun v_9 e_9 => ?_)
            have u_9 : v_9.toInt = x4.toInt + (1 : Int32).toInt := by rw [e_9]; exact ti_add (by omega) (by omega)
            exact hrec_51 _ _ _ _ _ _ hQ_3 (by omega) (gq_w hG_3 (by omega)) (by omega)
        · simp only [fa_lt, fa_le, fa_eq] at c_4
          refine ok_nm (fun v_7 e_7 => ?_)
          have u_7 : v_7.toInt = x4.toInt + (1 : Int32).toInt := by rw [e_7]; exact ti_add (by omega) (by omega)
          exact hrec_51 _ _ _ _ _ _ hQ_3 (by omega) (gq_w hG_3 (by omega)) (by omega)
theorem w_H_X12_round_51 (hN : 4294967296 ≤ N) : ∀ (n : Nat) (σ : gI) (τ : gJ) (x1 : Int32) (x2 : Int32) (x3 : Int32) (x4 : Int32), QB 16 σ g → (0 ≤ x4.toInt) → (GQ σ 224 1 (1000000000 + x4.toInt)) → (2147483647 - x4.toInt).toNat < n → okp (fun (a : Int32) σ1 τ1 => QB 16 σ1 g) (H_X12_round_51 N n σ τ x1 x2 x3 x4) := by
  intro n
  induction n with
  | zero => intro σ τ x1 x2 x3 x4 _ _ _ hm; exact absurd hm (Nat.not_lt_zero _)
  | succ n ih =>
    intro σ τ x1 x2 x3 x4 hQ h0_51 hG hm
    exact w_C_X12_round_51 hN ih hQ h0_51 hm hG
set_option maxHeartbeats 2000000 in
theorem w_B_X12_round_0 (hN : 4294967296 ≤ N) {σ : gI} {τ : gJ} {x1 : Int32} (hQ : QB 16 σ g) : okp (fun (a : Int32) σ1 τ1 => QB 16 σ1 g) (B_X12_round_0 N σ τ x1) := by
  unfold B_X12_round_0
  have hg := qb_rng hQ
  have l_m1 : (-1 : Int32).toInt = -1 := rfl
  have l_0 : (0 : Int32).toInt = 0 := rfl
  have l_1 : (1 : Int32).toInt = 1 := rfl
  have l_9 : (9 : Int32).toInt = 9 := rfl
  have l_33 : (33 : Int32).toInt = 33 := rfl
  have l_34 : (34 : Int32).toInt = 34 := rfl
  have l_35 : (35 : Int32).toInt = 35 := rfl
  have l_99 : (99 : Int32).toInt = 99 := rfl
  have l_199 : (199 : Int32).toInt = 199 := rfl
  have r_x1 := i32_rng x1
  refine ok_nm (fun σ_1 e_1 => ?_)
  have hQ_1 := qb_up hQ e_1 (by omega)
  refine ok_bd (w_B_X12_isPlace_0 hN hQ_1) (fun r_2 σ_2 τ_2 hp_2 => ?_)
  obtain ⟨h9_2, g_2⟩ := hp_2
  subst h9_2
  have r_r_2 := i32_rng r_2
  refine ok_ite (fun c_1 => ?_) (fun c_1 => ?_)
  · simp only [fa_lt, fa_le, fa_eq] at c_1
    exact ok_r (qb_w hQ_1 (by omega))
  · simp only [fa_lt, fa_le, fa_eq] at c_1
    refine ok_bd (w_B_X12_thinksNow_0 hN hQ_1) (fun _ σ_4 τ_4 hp_4 => ?_)
    have hQ_4 : QB 16 σ_4 g := hp_4
    refine ok_nm (fun σ_5 e_5 => ?_)
    have hQ_5 := qb_up hQ_4 e_5 (by omega)
    refine ok_nm (fun σ_6 e_6 => ?_)
    have hQ_6 := qb_up hQ_5 e_6 (by omega)
    refine ok_nm (fun σ_7 e_7 => ?_)
    have hQ_7 := qb_up hQ_6 e_7 (by omega)
    refine ok_bd (w_B_X12_laysAlone_0 hN hQ_7 (by omega)) (fun _ σ_8 τ_8 hp_8 => ?_)
    have hQ_8 : QB 16 σ_8 g := hp_8.1
    have g_8 := hp_8.2
    have hG_8 := hp_8.2
    exact w_H_X12_round_51 hN N _ _ _ _ _ _ hQ_8 (by omega) (gq_w hG_8 (by omega)) (by omega)
end Q1
