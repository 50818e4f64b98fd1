def MP (q : Nat) (M4 N4 P4 : Int32) : Unit → gI → gJ → Prop := fun _ σ1 _ => RJ σ1 q M4 (N4 + 1) P4 ∧ SI σ1 ∧ RK σ1 q M4 (-1)
section MINUTE
variable {q : Nat} {M4 N4 P4 : Int32}
theorem m_H_X12_minuteGoes_55 (N : Nat) (hN : 4294967296 ≤ N) (hq : q = 206 ∨ q = 207 ∨ q = 224) (hM : 0 ≤ M4.toInt ∧ M4.toInt ≤ 6) (hN4 : 0 ≤ N4.toInt) (rec_11 : gI → gJ → Int32 → Int32 → Option (Unit × gI × gJ)) (x2 x3 : Int32) (hx : 0 ≤ x3.toInt ∧ x3.toInt < M4.toInt)
    (h11 : ∀ (σ : gI) (τ : gJ) (v : Int32), v = x3 + 1 → RJ σ q M4 N4 P4 → SI σ → RK σ q M4 (-1) → okp (MP q M4 N4 P4) (rec_11 σ τ x2 v)) : ∀ (n : Nat) (σ : gI) (τ : gJ) (x4 x5 : Int32), RJ σ q M4 N4 P4 → SI σ → RK σ q M4 (-1) → (x4 = 0 ∨ σ q (7 * x3.toInt.toNat + 4) = 0) → 0 ≤ x5.toInt → (2147483648 - x5.toInt).toNat < n → okp (MP q M4 N4 P4) (H_X12_minuteGoes_55 N q rec_11 n σ τ x2 x3 x4 x5) := by
  intro n
  induction n with
  | zero => intro σ τ x4 x5 _ _ _ _ _ hm; exact absurd hm (Nat.not_lt_zero _)
  | succ n ih =>
    intro σ τ x4 x5 hR hS hK hh h5 hm
    show okp _ (C_X12_minuteGoes_55 N q rec_11 (H_X12_minuteGoes_55 N q rec_11 n) σ τ x2 x3 x4 x5)
    unfold C_X12_minuteGoes_55
    have o1 : (1 : Int32).toInt = 1 := rfl
    refine ok_ite (fun _ => ok_nm (fun v ev => h11 σ τ v ev hR hS hK)) (fun c1 => ok_ite (fun _ => ok_nm (fun v ev => h11 σ τ v ev hR hS hK)) (fun c2 => ?_))
    rw [fa_le] at c1
    have hw : σ q (7 * x3.toInt.toNat + 4) = 0 := by
      rcases hh with hh | hh
      · exact absurd hh c2
      · exact hh
    refine ok_bd (m_B_X12_steps_0 N hN τ hR hS hK hq hM hN4 hx hw) (fun r σ5 τ5 h => ok_nm (fun v ev => ?_))
    have r2 := i32_rng x2
    have ev2 : v.toInt = x5.toInt + 1 := by rw [ev, ti_add (by omega) (by omega), o1]
    refine ih σ5 τ5 r v h.1 h.2.1 h.2.2.1 ?_ (by omega) (by omega)
    rcases h.2.2.2 with z | z
    · exact Or.inl z
    · exact Or.inr z.2
theorem m_H_X12_minuteGoes_11 (N : Nat) (hN : 4294967296 ≤ N) (hq : q = 206 ∨ q = 207 ∨ q = 224) (hM : 0 ≤ M4.toInt ∧ M4.toInt ≤ 6) (hN4 : 0 ≤ N4.toInt) (x2 : Int32) : ∀ (n : Nat) (σ : gI) (τ : gJ) (x3 : Int32), RJ σ q M4 N4 P4 → SI σ → RK σ q M4 (-1) → (0 ≤ x3.toInt ∧ x3.toInt ≤ 6) → (7 - x3.toInt).toNat < n → okp (MP q M4 N4 P4) (H_X12_minuteGoes_11 N q n σ τ x2 x3) := by
  intro n
  induction n with
  | zero => intro σ τ x3 _ _ _ _ hm; exact absurd hm (Nat.not_lt_zero _)
  | succ n ih =>
    intro σ τ x3 hR hS hK h3 hm
    show okp _ (C_X12_minuteGoes_11 N q (H_X12_minuteGoes_11 N q n) σ τ x2 x3)
    unfold C_X12_minuteGoes_11
    have o0 : (0 : Int32).toInt = 0 := rfl
    have o1 : (1 : Int32).toInt = 1 := rfl
    have o4 : (4 : Int32).toInt = 4 := rfl
    have o5 : (5 : Int32).toInt = 5 := rfl
    have o7 := ti_mul7 (x := x3) (by omega)
    have e4 : (7 * x3 + 4).toInt = 7 * x3.toInt + 4 := by rw [ti_add (by omega) (by omega), o7, o4]
    have e5 : (7 * x3 + 5).toInt = 7 * x3.toInt + 5 := by rw [ti_add (by omega) (by omega), o7, o5]
    rw [hR.2.2.1, hR.2.1]
    refine ok_ite (fun _ => ok_nm (fun σ2 es => ok_r ⟨rj_now hR es (by omega) hM.2, si_up hS es (by omega), rk_last hK es (by omega) hM.2 (by omega)⟩)) (fun c1 => ?_)
    rw [fa_le] at c1
    have hx : 0 ≤ x3.toInt ∧ x3.toInt < M4.toInt := by omega
    have K := m_H_X12_minuteGoes_55 (P4 := P4) N hN hq hM hN4 (H_X12_minuteGoes_11 N q n) x2 x3 hx (fun σ9 τ9 v ev a1 a2 a3 => by
      have ev2 : v.toInt = x3.toInt + 1 := by rw [ev, ti_add (by omega) (by omega), o1]
      exact ih σ9 τ9 v a1 a2 a3 (by omega) (by omega)) N
    refine ok_ck ⟨by omega, by show _ < (45 : Int); omega⟩ (fun j3 hj3 lj3 => ok_ite (fun c => ok_ck ⟨by omega, by show _ < (45 : Int); omega⟩ (fun j5 hj5 lj5 => ok_ite (fun _ => ?_) (fun _ => ?_))) (fun _ => ?_))
    · exact K σ τ 0 0 hR hS hK (Or.inl rfl) (by omega) (by omega)
    · exact K σ τ 1 0 hR hS hK (Or.inr (by rw [show 7 * x3.toInt.toNat + 4 = j3 by omega]; exact c)) (by omega) (by omega)
    · exact K σ τ 0 0 hR hS hK (Or.inl rfl) (by omega) (by omega)
theorem m_B_X12_minuteGoes_0 (N : Nat) (hN : 4294967296 ≤ N) {σ : gI} (τ : gJ) (hR : RJ σ q M4 N4 P4) (hS : SI σ) (hK : RK σ q M4 (-1)) (hq : q = 206 ∨ q = 207 ∨ q = 224) (hM : 0 ≤ M4.toInt ∧ M4.toInt ≤ 6) (hN4 : 0 ≤ N4.toInt) : okp (MP q M4 N4 P4) (B_X12_minuteGoes_0 N q σ τ) := by
  unfold B_X12_minuteGoes_0
  have o0 : (0 : Int32).toInt = 0 := rfl
  refine ok_bd2 (m_B_X12_waterIn_0 N hN σ τ (σ q 43) hS (by rw [hR.2.1]; exact hN4)) (fun r σ1 τ1 q1 _ => ?_)
  have g1 : ∀ c k : Nat, σ1 c k = σ c k := fun c k => (fr_B_X12_waterIn_0 N σ τ _ q1).1 c k id
  exact m_H_X12_minuteGoes_11 N hN hq hM hN4 r N σ1 τ1 0 (rj_fr hR (fun c k _ => g1 c k)) (si_fr hS (fun c k _ => g1 c k)) (rk_fr hK (fun c k _ => g1 c k)) (by omega) (by omega)
end MINUTE
