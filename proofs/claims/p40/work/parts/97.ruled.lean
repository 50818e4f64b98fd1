def RU (q : Nat) (M4 N4 P4 : Int32) (σ : gI) (x3 x4 : Int32) : Prop := RJ σ q M4 N4 P4 ∧ SI σ ∧ 0 ≤ x4.toInt ∧ x4.toInt ≤ 80 ∧ x3.toInt = dep (σ 216) x4.toInt.toNat
theorem rl_next {q : Nat} {M4 N4 P4 : Int32} {σ σ1 : gI} {x3 x4 y3 y4 : Int32} (hq : q = 206 ∨ q = 207 ∨ q = 224) (h : RU q M4 N4 P4 σ x3 x4) (hl : x4.toInt < (σ 199 28).toInt) (g : ∀ c k : Nat, c ≠ 218 → σ1 c k = σ c k) (e3 : y3.toInt = x3.toInt + eff (σ 216 x4.toInt.toNat)) (e4 : y4 = x4 + 1) : RU q M4 N4 P4 σ1 y3 y4 := by
  obtain ⟨h1, h2, h3, h4, h5⟩ := h
  have hc := h2.2.2.1
  have o : (1 : Int32).toInt = 1 := rfl
  have e5 : y4.toInt = x4.toInt + 1 := by rw [e4, ti_add (by omega) (by omega), o]
  have e6 : σ1 216 = σ 216 := funext fun k => g 216 k (by omega)
  refine ⟨rj_fr h1 (fun c k hh => g c k (by omega)), si_fr h2 (fun c k hh => g c k (by omega)), by omega, by omega, ?_⟩
  rw [e6, e5, show (x4.toInt + 1).toNat = x4.toInt.toNat + 1 by omega]
  simp only [dep]
  omega
set_option maxHeartbeats 4000000 in
theorem m_C_X12_ruled_28 (N : Nat) (hN : 4294967296 ≤ N) (q : Nat) (M4 N4 P4 : Int32) (rec_28 : gI → gJ → Int32 → Int32 → Int32 → Option (Int32 × gI × gJ)) (n_28 : Nat) (hM : 0 ≤ M4.toInt ∧ M4.toInt ≤ 6) (hq : q = 206 ∨ q = 207 ∨ q = 224) (hN4 : 0 ≤ N4.toInt)
    (hrec : ∀ (σ : gI) (τ : gJ) (x2 x3 x4 : Int32), RU q M4 N4 P4 σ x3 x4 → (0 ≤ x2.toInt ∧ x2.toInt < M4.toInt) → (81 - x4.toInt).toNat < n_28 → okp (fun (a : Int32) σ1 τ1 => True) (rec_28 σ τ x2 x3 x4))
    (σ : gI) (τ : gJ) (x2 x3 x4 : Int32) (h : RU q M4 N4 P4 σ x3 x4) (h2 : 0 ≤ x2.toInt ∧ x2.toInt < M4.toInt) (hm : (81 - x4.toInt).toNat < n_28 + 1) : okp (fun (a : Int32) σ1 τ1 => True) (C_X12_ruled_28 N q rec_28 σ τ x2 x3 x4) := by
  unfold C_X12_ruled_28
  obtain ⟨hR, hS, g0, g80, g3⟩ := id h
  have o : (1 : Int32).toInt = 1 := rfl
  refine ok_ite (fun _ => ok_r trivial) (fun c1 => ?_)
  rw [fa_le] at c1
  have hL := hS.2.2.1
  have hlt : x4.toInt < (σ 199 28).toInt := by omega
  have hn := hS.2.2.2 x4.toInt.toNat (by omega)
  have hd := dep_le (σ 216) x4.toInt.toNat
  have e4 : (x4 + 1).toInt = x4.toInt + 1 := by rw [ti_add (by omega) (by omega), o]
  refine ok_ck ⟨by omega, by show x4.toInt < 80; omega⟩ (fun j hj lj => ?_)
  have ej : j = x4.toInt.toNat := by omega
  subst ej
  refine ok_nm (fun v ev => ?_)
  rw [← ev] at hn
  refine ok_ite (fun c2 => ?_) (fun c2 => ?_)
  · have n1 : need v = 1 := by unfold need; rw [if_pos c2]
    have n2 : eff v = 0 := by unfold eff; rw [if_pos c2]
    have e1 : (x3 - 1).toInt = x3.toInt - 1 := by rw [ti_sub (by omega) (by omega), o]
    refine ok_ck ⟨by omega, by show _ < (80 : Int); omega⟩ (fun j1 hj1 lj1 => ok_nm (fun σ1 es => ok_nm (fun v4 ev4 => ?_)))
    refine hrec _ _ _ _ _ (rl_next hq h hlt (fun c k hh => by rw [es]; exact up2_ne (by omega)) (by rw [← ev, n2]; omega) ev4) h2 (by rw [ev4, e4]; omega)
  · refine ok_ite (fun c3 => ?_) (fun c3 => ?_)
    · have c3' : v.toInt < 2000 := (fa_lt _ _).mp c3
      have n1 : need v = 0 := by unfold need; rw [if_neg c2, if_pos c3']
      have n2 : eff v = 1 := by unfold eff; rw [if_neg c2, if_pos c3']
      have e1 : (x3 + 1).toInt = x3.toInt + 1 := by rw [ti_add (by omega) (by omega), o]
      refine ok_ite (fun _ => ?_) (fun _ => ?_)
      · refine ok_ck ⟨by omega, by show _ < (80 : Int); omega⟩ (fun j1 hj1 lj1 => ok_nm (fun σ1 es => ok_nm (fun v3 ev3 => ok_nm (fun v4 ev4 => ?_))))
        exact hrec _ _ _ _ _ (rl_next hq h hlt (fun c k hh => by rw [es]; exact up2_ne (by omega)) (by rw [← ev, n2, ev3, e1]) ev4) h2 (by rw [ev4, e4]; omega)
      · refine ok_bd2 (m_B_X12_askedOf_0 N hN q M4 N4 P4 σ τ x2 (v - 1000) hR hM hq hS h2 hN4) (fun r σ9 τ9 q9 _ => ?_)
        have f9 := fr_B_X12_askedOf_0 N q σ τ x2 (v - 1000) q9
        refine ok_ck ⟨by omega, by show _ < (80 : Int); omega⟩ (fun j1 hj1 lj1 => ok_nm (fun σ1 es => ok_nm (fun v3 ev3 => ok_nm (fun v4 ev4 => ?_))))
        exact hrec _ _ _ _ _ (rl_next hq h hlt (fun c k hh => by rw [es, up2_ne (by omega)]; exact f9.1 c k id) (by rw [← ev, n2, ev3, e1]) ev4) h2 (by rw [ev4, e4]; omega)
    · have c3' : ¬ v.toInt < 2000 := fun z => c3 ((fa_lt _ _).mpr z)
      have n1 : need v = 2 := by unfold need; rw [if_neg c2, if_neg c3']
      have n2 : eff v = -1 := by unfold eff; rw [if_neg c2, if_neg c3']
      have o2 : (-1 : Int32).toInt = -1 := rfl
      refine ok_nm (fun w ew => ?_)
      have e1 : w.toInt = x3.toInt - 1 := by rw [ew, ti_add (by omega) (by omega), o2]; omega
      have e2 : (w - 1).toInt = w.toInt - 1 := by rw [ti_sub (by omega) (by omega), o]
      refine ok_ck ⟨by omega, by show _ < (80 : Int); omega⟩ (fun j1 hj1 lj1 => ok_ck ⟨by omega, by show _ < (80 : Int); omega⟩ (fun j2 hj2 lj2 => ?_))
      refine ok_bd2 (m_B_X12_worked_0 N hN σ τ _ _ _) (fun r σ9 τ9 q9 _ => ?_)
      have f9 := fr_B_X12_worked_0 N σ τ _ _ _ q9
      refine ok_nm (fun σ1 es => ok_nm (fun v4 ev4 => ?_))
      exact hrec _ _ _ _ _ (rl_next hq h hlt (fun c k hh => by rw [es, up2_ne (by omega)]; exact f9.1 c k id) (by rw [← ev, n2, e1]; omega) ev4) h2 (by rw [ev4, e4]; omega)
theorem m_H_X12_ruled_28 (N : Nat) (hN : 4294967296 ≤ N) (q : Nat) (M4 N4 P4 : Int32) (hM : 0 ≤ M4.toInt ∧ M4.toInt ≤ 6) (hq : q = 206 ∨ q = 207 ∨ q = 224) (hN4 : 0 ≤ N4.toInt) : ∀ (n : Nat) (σ : gI) (τ : gJ) (x2 x3 x4 : Int32), RU q M4 N4 P4 σ x3 x4 → (0 ≤ x2.toInt ∧ x2.toInt < M4.toInt) → (81 - x4.toInt).toNat < n → okp (fun (a : Int32) σ1 τ1 => True) (H_X12_ruled_28 N q n σ τ x2 x3 x4) := by
  intro n
  induction n with
  | zero => intro σ τ x2 x3 x4 _ _ hm; exact absurd hm (Nat.not_lt_zero _)
  | succ n ih =>
    intro σ τ x2 x3 x4 h h2 hm
    exact m_C_X12_ruled_28 N hN q M4 N4 P4 (H_X12_ruled_28 N q n) n hM hq hN4 ih σ τ x2 x3 x4 h h2 hm
theorem m_B_X12_ruled_0 (N : Nat) (hN : 4294967296 ≤ N) (q : Nat) (M4 N4 P4 : Int32) (σ : gI) (τ : gJ) (x2 : Int32) (hR : RJ σ q M4 N4 P4) (hM : 0 ≤ M4.toInt ∧ M4.toInt ≤ 6) (hq : q = 206 ∨ q = 207 ∨ q = 224) (hS : SI σ) (h2 : 0 ≤ x2.toInt ∧ x2.toInt < M4.toInt) (hN4 : 0 ≤ N4.toInt) : okp (fun (a : Int32) σ1 τ1 => True) (B_X12_ruled_0 N q σ τ x2) := by
  unfold B_X12_ruled_0
  have o7 := ti_mul7 (x := x2) (by omega)
  have o0 : (0 : Int32).toInt = 0 := rfl
  have e1 : (7 * x2 + 0).toInt = 7 * x2.toInt := by rw [ti_add (by omega) (by omega), o7, o0]; omega
  refine ok_ite (fun _ => ok_ck ⟨by omega, by show _ < (45 : Int); omega⟩ (fun j hj lj => ok_r trivial)) (fun _ => ?_)
  exact m_H_X12_ruled_28 N hN q M4 N4 P4 hM hq hN4 N σ τ x2 0 0 ⟨hR, hS, by decide, by decide, by simp [dep]⟩ h2 (by have : (0 : Int32).toInt = 0 := rfl; omega)
