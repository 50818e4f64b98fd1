section ODDS
variable {g : Nat → Int32} {σ : gI} {τ : gJ} {N : Nat}
theorem ti64_rem {a b : Int64} (hb : ¬ b.toInt = 0) : (a - a / b * b).toInt = a.toInt.tmod b.toInt := by
  rw [Int64.toInt_sub, Int64.toInt_mul, Int64.toInt_div, Int.bmod_mul_bmod, Int.sub_bmod_bmod]
  have e : a.toInt - a.toInt.tdiv b.toInt * b.toInt = a.toInt.tmod b.toInt := by rw [Int.tmod_def, Int.mul_comm]
  rw [e]
  have h1 : (a.toInt.tmod b.toInt).natAbs = a.toInt.natAbs % b.toInt.natAbs := Int.natAbs_tmod _ _
  have h2 : a.toInt.natAbs % b.toInt.natAbs < b.toInt.natAbs := Nat.mod_lt _ (by omega)
  have h3 := Int64.le_toInt b
  have h4 := Int64.toInt_lt b
  exact Int.bmod_eq_of_le (by omega) (by omega)
theorem cmp0 {x : Int64} : lg_cmp x 0 = 0 ↔ x.toInt = 0 := by
  have o : (0 : Int64).toInt = 0 := rfl
  have l := gx_cl x 0
  have g := gx_cg x 0
  rw [o] at l g
  have z0 : (0 : Int32).toInt = 0 := rfl
  constructor
  · intro h
    rw [h] at l g
    have a1 : ¬ x.toInt < 0 := fun q => absurd (l.mpr q) (by decide)
    have a2 : ¬ 0 < x.toInt := fun q => absurd (g.mpr q) (by decide)
    omega
  · intro h
    have b1 : ¬ lg_cmp x 0 < 0 := fun q => by have := l.mp q; omega
    have b2 : ¬ 0 < lg_cmp x 0 := fun q => by have := g.mp q; omega
    rw [fa_lt] at b1 b2
    exact (fa_eq _ _).mpr (by omega)
theorem mod_half {b r k : Nat} (h : b < 2 ^ (k + 1)) (h1 : 0 < r) (h2 : r < b) : b % r < 2 ^ k := by
  rw [Nat.pow_succ] at h
  by_cases c : 2 * r ≤ b
  · have := Nat.mod_lt b h1
    omega
  · rw [Nat.mod_eq_sub_mod (by omega), Nat.mod_eq_of_lt (by omega)]
    omega
theorem w_common : ∀ (k D : Nat) (σ : gI) (τ : gJ) (a b : Int64), b.toInt.natAbs < 2 ^ k → 2 * k + 1 ≤ D → (¬ a.toInt = 0 ∨ ¬ b.toInt = 0) → okp (fun (r : Int64) σ1 τ1 => σ = σ1 ∧ ¬ r.toInt = 0) (R_X12_common N D σ τ a b) := by
  intro k
  induction k with
  | zero =>
    intro D σ τ a b hb hD hz
    obtain ⟨D1, rfl⟩ : ∃ D1, D = D1 + 1 := ⟨D - 1, by omega⟩
    show okp _ (B_X12_common_0 (R_X12_common N D1) N σ τ a b)
    unfold B_X12_common_0
    have hb0 : b.toInt = 0 := by rw [Nat.pow_zero] at hb; omega
    exact ok_ite (fun _ => ok_r ⟨rfl, by omega⟩) (fun c => absurd (cmp0.mpr hb0) c)
  | succ k ih =>
    intro D σ τ a b hb hD hz
    obtain ⟨D2, rfl⟩ : ∃ D2, D = D2 + 1 + 1 := ⟨D - 2, by omega⟩
    show okp _ (B_X12_common_0 (R_X12_common N (D2 + 1)) N σ τ a b)
    unfold B_X12_common_0
    refine ok_ite (fun c => ?_) (fun c => ?_)
    · rw [cmp0] at c
      exact ok_r ⟨rfl, by omega⟩
    · rw [cmp0] at c
      refine ok_dzl (fun z => c (by rw [z]; rfl)) ?_
      have e1 := ti64_rem (a := a) c
      generalize a - a / b * b = r1 at e1 ⊢
      have n1 : r1.toInt.natAbs < b.toInt.natAbs := by
        rw [e1, Int.natAbs_tmod]
        exact Nat.mod_lt _ (by omega)
      refine ok_bd (Q := fun (r : Int64) σ1 τ1 => σ = σ1 ∧ ¬ r.toInt = 0) ?_ (fun r σ1 τ1 h => ok_r h)
      show okp _ (B_X12_common_0 (R_X12_common N D2) N σ τ b r1)
      unfold B_X12_common_0
      refine ok_ite (fun c1 => ok_r ⟨rfl, c⟩) (fun c1 => ?_)
      rw [cmp0] at c1
      refine ok_dzl (fun z => c1 (by rw [z]; rfl)) ?_
      have e2 := ti64_rem (a := b) c1
      generalize b - b / r1 * r1 = r2 at e2 ⊢
      have n2 : r2.toInt.natAbs < 2 ^ k := by
        rw [e2, Int.natAbs_tmod]
        exact mod_half hb (by omega) n1
      exact ok_bd (ih D2 σ τ r1 r2 n2 (by omega) (Or.inl c1)) (fun r σ1 τ1 h => ok_r h)
theorem w_fraction (hN : 4294967296 ≤ N) {x1 x3 : Int64} (hQ : QB 0 σ g) (h3 : 1 ≤ x3.toInt ∧ x3.toInt ≤ 1000000) : okp (fun (a : Unit) σ1 τ1 => QB 16 σ1 g) (B_X12_entersFraction_0 N σ τ x1 x3) := by
  unfold B_X12_entersFraction_0
  refine ok_bd (w_common 20 100 σ τ x1 x3 (by show x3.toInt.natAbs < 1048576; omega) (by omega) (Or.inr (by omega))) (fun r σ1 τ1 h1 => ?_)
  obtain ⟨h9, h1⟩ := h1
  subst h9
  have nz : ¬ r = 0 := fun z => h1 (by rw [z]; rfl)
  exact ok_dzl nz (ok_bd (w_B_X12_enters_0 hN hQ (by omega)) (fun _ σ3 τ3 h3 => ok_dzl nz (ok_bd (w_B_X12_enters_0 hN h3.1 (by omega)) (fun _ σ5 τ5 h5 => ok_r (qb_w h5.1 (by omega))))))
theorem shl_7 {p : Int32} (h : 0 ≤ p.toInt ∧ p.toInt < 7) : 0 ≤ ((1 : Int32) <<< (p &&& 31)).toInt ∧ ((1 : Int32) <<< (p &&& 31)).toInt < 128 := by
  rcases (show p.toInt = 0 ∨ p.toInt = 1 ∨ p.toInt = 2 ∨ p.toInt = 3 ∨ p.toInt = 4 ∨ p.toInt = 5 ∨ p.toInt = 6 by omega) with e | e | e | e | e | e | e <;> (rw [i32_of e]; decide +kernel)
theorem w_odds120 (hN : 4294967296 ≤ N) {x1 x2 x3 x4 : Int32} {x7 : Int64} (h1 : 0 ≤ x1.toInt ∧ x1.toInt < 6) (h2 : x2.toInt ≤ 60) (h4 : 0 ≤ x4.toInt ∧ x4.toInt ≤ 6) (h7 : 1 ≤ x7.toInt ∧ x7.toInt ≤ 1000000) : ∀ (n : Nat) (σ : gI) (τ : gJ) (x5 : Int64) (x9 : Int32), QB 16 σ g → (0 ≤ x9.toInt ∧ x9.toInt ≤ 128) → (129 - x9.toInt).toNat < n → okp (fun (a : Int32) σ1 τ1 => QB 16 σ1 g) (H_X12_odds_120 N n σ τ x1 x2 x3 x4 x5 x7 x9) := by
  intro n
  induction n with
  | zero => intro σ τ x5 x9 _ _ hm; exact absurd hm (Nat.not_lt_zero _)
  | succ n ih =>
    intro σ τ x5 x9 hQ h9 hm
    show okp _ (C_X12_odds_120 N (H_X12_odds_120 N n) σ τ x1 x2 x3 x4 x5 x7 x9)
    unfold C_X12_odds_120
    have l1 : (1 : Int32).toInt = 1 := rfl
    have l4 : (4 : Int32).toInt = 4 := rfl
    have l0 : (0 : Int32).toInt = 0 := rfl
    have hs := shl_7 (p := x4) (by omega)
    refine ok_ite (fun _ => ok_nm (fun s2 e2 => ok_nm (fun s3 e3 => ?_))) (fun c => ok_nm (fun s5 e5 => ?_))
    · exact ok_bd (w_fraction hN (qb_r0 (qb_up hQ e2 (by omega)) e3) h7) (fun _ σ4 τ4 h4 => ok_r h4)
    · rw [fa_le] at c
      refine ok_bd (w_B_X12_goesOn_0 hN (qb_up hQ e5 (by omega)) (by omega)) (fun _ σ6 τ6 h6 => ?_)
      have i4 := ti_7k (x := x1) (k := 4) (by omega) (by omega)
      refine ok_ck ⟨by omega, by omega⟩ (fun j hj lj => ok_ite (fun _ => ?_) (fun _ => ok_nm (fun v ev => ?_)))
      · suffices H : ∀ (n2 : Nat) (σ : gI) (τ : gJ) (x10 : Int64) (x12 : Int32), QB 16 σ g → (0 ≤ x12.toInt ∧ x12.toInt ≤ 6) → (7 - x12.toInt).toNat < n2 → okp (fun (a : Int32) σ1 τ1 => QB 16 σ1 g) (H_X12_odds_161 N (H_X12_odds_120 N n) n2 σ τ x1 x2 x3 x4 x5 x7 x9 x10 x12) from H N _ _ _ _ h6.1 (by omega) (by omega)
        intro n2
        induction n2 with
        | zero => intro σ τ x10 x12 _ _ hm; exact absurd hm (Nat.not_lt_zero _)
        | succ n2 ih2 =>
          intro σ τ x10 x12 hQ h12 hm2
          show okp _ (C_X12_odds_161 N (H_X12_odds_120 N n) (H_X12_odds_161 N (H_X12_odds_120 N n) n2) σ τ x1 x2 x3 x4 x5 x7 x9 x10 x12)
          unfold C_X12_odds_161
          refine ok_ite (fun _ => ok_nm (fun v2 _ => ok_nm (fun v3 e3 => ?_))) (fun c12 => ?_)
          · have eu : v3.toInt = x9.toInt + 1 := by rw [e3, ti_add (by omega) (by omega), l1]
            exact ih _ _ _ _ hQ (by omega) (by omega)
          · rw [fa_le] at c12
            refine ok_bd (w_B_X12_has_0 hN) (fun r4 σ4 τ4 h4 => ?_)
            obtain ⟨h9', _⟩ := h4
            subst h9'
            refine ok_ite (fun _ => ok_nm (fun _ _ => ok_nm (fun v ev => ?_))) (fun _ => ok_nm (fun _ _ => ok_nm (fun v ev => ?_)))
            · have eu : v.toInt = x12.toInt + 1 := by rw [ev, ti_add (by omega) (by omega), l1]
              exact ih2 _ _ _ _ hQ (by omega) (by omega)
            · have eu : v.toInt = x12.toInt + 1 := by rw [ev, ti_add (by omega) (by omega), l1]
              exact ih2 _ _ _ _ hQ (by omega) (by omega)
      · have eu : v.toInt = x9.toInt + 1 := by rw [ev, ti_add (by omega) (by omega), l1]
        exact ih _ _ _ _ h6.1 (by omega) (by omega)
theorem ti64_mul10 {a : Int64} (h : 0 ≤ a.toInt ∧ a.toInt ≤ 1000000) : (a * 10).toInt = a.toInt * 10 := by
  rw [Int64.toInt_mul, show (10 : Int64).toInt = 10 from rfl]
  exact Int.bmod_eq_of_le (by omega) (by omega)
theorem w_odds96 (hN : 4294967296 ≤ N) {x1 x2 x3 x4 : Int32} (h1 : 0 ≤ x1.toInt ∧ x1.toInt < 6) (h2 : x2.toInt ≤ 60) (h4 : 0 ≤ x4.toInt ∧ x4.toInt ≤ 6) (hQ : QB 16 σ g) : ∀ (n : Nat) (τ : gJ) (x7 : Int64) (x9 : Int32), ((x9.toInt = 0 ∧ x7.toInt = 1) ∨ (x9.toInt = 1 ∧ x7.toInt = 10) ∨ (x9.toInt = 2 ∧ x7.toInt = 100) ∨ (x9.toInt = 3 ∧ x7.toInt = 1000) ∨ (x9.toInt = 4 ∧ x7.toInt = 10000) ∨ (x9.toInt = 5 ∧ x7.toInt = 100000) ∨ (x9.toInt = 6 ∧ x7.toInt = 1000000)) → (7 - x9.toInt).toNat < n → okp (fun (a : Int32) σ1 τ1 => QB 16 σ1 g) (H_X12_odds_96 N n σ τ x1 x2 x3 x4 x7 x9) := by
  intro n
  induction n with
  | zero => intro τ x7 x9 _ hm; exact absurd hm (Nat.not_lt_zero _)
  | succ n ih =>
    intro τ x7 x9 h7 hm
    show okp _ (C_X12_odds_96 N (H_X12_odds_96 N n) σ τ x1 x2 x3 x4 x7 x9)
    unfold C_X12_odds_96
    have l1 : (1 : Int32).toInt = 1 := rfl
    have l0 : (0 : Int32).toInt = 0 := rfl
    refine ok_ite (fun _ => w_odds120 hN h1 h2 h4 (by omega) N σ τ _ _ hQ (by omega) (by omega)) (fun c => ok_nm (fun v2 e2 => ok_nm (fun v3 e3 => ?_)))
    rw [fa_le] at c
    have eu : v3.toInt = x9.toInt + 1 := by rw [e3, ti_add (by omega) (by omega), l1]
    have ew : v2.toInt = x7.toInt * 10 := by rw [e2]; exact ti64_mul10 (by omega)
    exact ih _ _ _ (by omega) (by omega)
theorem w_B_X12_odds_0 (hN : 4294967296 ≤ N) {x1 x2 x3 : Int32} (hQ : QB 16 σ g) : okp (fun (a : Int32) σ1 τ1 => QB 16 σ1 g) (B_X12_odds_0 N σ τ x1 x2 x3) := by
  unfold B_X12_odds_0
  have hg := qb_rng hQ
  have l0 : (0 : Int32).toInt = 0 := rfl
  have l1 : (1 : Int32).toInt = 1 := rfl
  have l9 : (9 : Int32).toInt = 9 := rfl
  have l10 : (10 : Int32).toInt = 10 := rfl
  refine ok_nm (fun s1 e1 => ?_)
  have q1 := qb_up hQ e1 (by omega)
  refine ok_bd (w_B_X12_isThing_0 hN q1) (fun r2 σ2 τ2 h2 => ?_)
  obtain ⟨h9, h2⟩ := h2
  subst h9
  refine ok_ite (fun _ => ok_r q1) (fun c2 => ?_)
  rw [fa_eq] at c2
  refine ok_bd (w_B_X12_in_0 hN) (fun r4 σ4 τ4 h4 => ?_)
  obtain ⟨h9, h4⟩ := h4
  subst h9
  have k4 := h4.2
  simp only [Int32.toInt_toInt64, show (0 : Int64).toInt = 0 from rfl, show (60 : Int64).toInt = 60 from rfl] at k4
  refine ok_ite (fun _ => ok_r q1) (fun c4 => ?_)
  rw [fa_eq] at c4
  refine ok_bd (w_B_X12_in_0 hN) (fun r6 σ6 τ6 h6 => ?_)
  obtain ⟨h9, h6⟩ := h6
  subst h9
  refine ok_ite (fun _ => ok_r q1) (fun c6 => ok_nm (fun s8 e8 => ?_))
  have q8 := qb_up q1 e8 (by omega)
  have n1 := qb_N q1
  have n8 := qb_N q8
  have r8 : (s8 199 32).toInt = ((g 2).toInt + 9) / 10 := by
    rw [e8]
    unfold up2
    have a9 := ti_add (a := s1 206 43) (b := 9) (by omega) (by omega)
    rw [if_pos ⟨rfl, rfl⟩, ti_div (by omega) (by omega), a9, l9, l10, n1]
  suffices H : ∀ (n : Nat) (τ : gJ) (x4 : Int32), (0 ≤ x4.toInt ∧ x4.toInt ≤ 6) → (7 - x4.toInt).toNat < n → okp (fun (a : Int32) σ1 τ1 => QB 16 σ1 g) (H_X12_odds_59 N n s8 τ x1 x2 x3 x4) from H N _ 0 (by omega) (by omega)
  intro n
  induction n with
  | zero => intro τ x4 _ hm; exact absurd hm (Nat.not_lt_zero _)
  | succ n ih =>
    intro τ x4 h4 hm
    show okp _ (C_X12_odds_59 N (H_X12_odds_59 N n) s8 τ x1 x2 x3 x4)
    unfold C_X12_odds_59
    have a1 := ti_add (a := s8 206 43) (b := x2) (by omega) (by omega)
    have a2 := ti_add (a := s8 199 32) (b := x4) (by omega) (by omega)
    have a3 : (10 * ((s8 199 32) + x4)).toInt = 10 * ((s8 199 32).toInt + x4.toInt) := by rw [ti_mul (by rw [l10]; omega) (by rw [l10]; omega), l10, a2]
    refine ok_ite (fun _ => w_odds96 hN (by omega) (by omega) h4 q8 N _ _ _ (by rw [show (1 : Int64).toInt = 1 from rfl]; omega) (by omega)) (fun c => ok_nm (fun v ev => ?_))
    rw [fa_le] at c
    have eu : v.toInt = x4.toInt + 1 := by rw [ev, ti_add (by omega) (by omega), l1]
    exact ih _ _ (by omega) (by omega)
end ODDS
