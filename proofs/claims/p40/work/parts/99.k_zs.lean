section ZS
variable {B : Int} {g : Nat → Int32} {σ : gI} {τ : gJ} {N : Nat}
/-- behind putsBy, before adds -/
def ZP (σ : gI) (g : Nat → Int32) (B : Int) : Prop := QB 16 σ g ∧ (g 2).toInt ≤ B ∧ (0 ≤ (σ 199 36).toInt ∧ (σ 199 36).toInt ≤ 15) ∧ UU σ ((σ 199 36).toInt + 1) B ∧ KI σ B ∧ (0 ≤ (σ 199 13).toInt ∧ (σ 199 13).toInt ≤ 80)
theorem zm_up {σ1 : gI} {c j : Nat} {v : Int32} (h : ZM σ g B) (e : σ1 = up2 σ c j v) (hc : ¬ ((c = 199 ∧ (j = 1 ∨ j = 3 ∨ j = 4 ∨ j = 28 ∨ j = 46 ∨ j = 52 ∨ j = 13 ∨ j = 36)) ∨ (201 ≤ c ∧ c ≤ 204) ∨ c = 206 ∨ c = 216 ∨ c = 226 ∨ c = 227 ∨ c = 219 ∨ c = 231 ∨ c = 232)) : ZM σ1 g B := by
  obtain ⟨a, b, c9, d, e9, i⟩ := h
  have f : ∀ c9 k9 : Nat, ¬ (c9 = c ∧ k9 = j) → σ1 c9 k9 = σ c9 k9 := fun c9 k9 h9 => by rw [e]; exact up2_ne h9
  have e36 := f 199 36 (by omega)
  refine ⟨qb_up a e (by omega), b, by rw [e36]; exact c9, ?_, ki_fr e9 (fun c k hh => f c k (by omega)) (by omega), by rw [f 199 13 (by omega)]; exact i⟩
  rw [e36]
  exact uu_fr d (fun c k hh => f c k (by omega)) (by omega)
theorem zm_n {σ : gI} {B1 : Int} (h : ZM σ g B) (hB : B ≤ B1) : ZN σ B1 := by
  obtain ⟨a, b, c, d, e, i⟩ := h
  exact ⟨g, a, by omega, c, uu_fr d (fun _ _ _ => rfl) hB, ki_fr e (fun _ _ _ => rfl) hB, i⟩
theorem zp_n {σ : gI} {B1 : Int} (h : ZP σ g B) (hB : B ≤ B1) : ZN σ B1 := by
  obtain ⟨a, b, c, d, e, i⟩ := h
  exact ⟨g, a, by omega, c, fun j hj => uu_fr d (fun _ _ _ => rfl) hB j (by omega), ki_fr e (fun _ _ _ => rfl) hB, i⟩
theorem zp_by (hN : 4294967296 ≤ N) (h : ZM σ g B) : okp (fun (a : Unit) σ1 τ1 => ZP σ1 g B) (B_X12_putsBy_0 N σ τ) := by
  obtain ⟨a, b, c, d, e, i⟩ := h
  refine ok_mono (fun _ σ1 _ h9 => ?_) (w_putsBy hN a b c d)
  obtain ⟨f, u⟩ := h9
  have e36 := f 199 36 (by omega)
  refine ⟨qb_fr a (fun c k hh => f c k (by omega)), b, by rw [e36]; exact c, by rw [e36]; exact u, ki_fr e (fun c k hh => f c k (by omega)) (by omega), by rw [f 199 13 (by omega)]; exact i⟩
/-- the row of now has changed, nothing else that is kept -/
theorem zp_g {σ1 : gI} {g1 : Nat → Int32} {B1 : Int} (h : ZP σ g B) (hQ : QB 16 σ1 g1) (h2 : (g1 2).toInt ≤ B1) (hB : B ≤ B1) (f : ∀ c k : Nat, (c = 199 ∧ (k = 3 ∨ k = 13 ∨ k = 36)) ∨ c = 219 ∨ c = 231 ∨ c = 232 ∨ c = 201 → σ1 c k = σ c k) : ZP σ1 g1 B1 := by
  obtain ⟨a, b, c, d, e, i⟩ := h
  have e36 := f 199 36 (by omega)
  refine ⟨hQ, h2, by rw [e36]; exact c, ?_, ki_fr e (fun c k hh => f c k (by omega)) hB, by rw [f 199 13 (by omega)]; exact i⟩
  rw [e36]
  exact uu_fr d (fun c k hh => f c k (by omega)) hB
theorem z_adds (hN : 4294967296 ≤ N) {x1 : Int32} {B1 : Int} (h : ZP σ g B) (hB : B ≤ B1) : okp (fun (a : Int32) σ1 τ1 => ZN σ1 B1) (B_X12_adds_0 N σ τ x1) := by
  obtain ⟨a, b, c, d, e, i⟩ := h
  refine ok_mono (fun _ σ1 _ h9 => ?_) (w_adds hN c d)
  obtain ⟨f, u, v⟩ := h9
  exact ⟨g, qb_fr a (fun c k hh => f c k (by omega)), by omega, u, uu_fr v (fun _ _ _ => rfl) hB, ki_fr e (fun c k hh => f c k (by omega)) hB, by rw [f 199 13 (by omega)]; exact i⟩
theorem z_put (hN : 4294967296 ≤ N) {x1 x2 x3 x4 : Int32} {B1 : Int} (h : ZM σ g B) (hB : B ≤ B1) : okp (fun (a : Int32) σ1 τ1 => ZN σ1 B1) (B_X12_put_0 N σ τ x1 x2 x3 x4) := by
  unfold B_X12_put_0
  refine ok_nm (fun s1 e1 => ok_bd (zp_by hN (zm_up h e1 (by omega))) (fun _ σ2 τ2 h2 => ?_))
  refine ok_bd2 (w_comesNow hN h2.1) (fun r σ3 τ3 e3 h3 => ?_)
  obtain ⟨g1, q1, q2, q3⟩ := h3
  have f := (fr_B_X12_comesNow_0 N σ2 τ2 x1 x2 x3 x4 e3).1
  have h3 : ZP σ3 g1 B := zp_g h2 q1 (by rw [q2]; exact h2.2.1) (by omega) (fun c k hh => f c k (by omega))
  exact ok_ite (fun _ => ok_bd (z_adds hN h3 hB) (fun r5 σ5 τ5 h5 => ok_r h5)) (fun _ => ok_r (zp_n h3 hB))
theorem z_give (hN : 4294967296 ≤ N) {x1 x2 : Int32} {B1 : Int} (h : ZM σ g B) (hB : B ≤ B1) : okp (fun (a : Int32) σ1 τ1 => ZN σ1 B1) (B_X12_give_0 N σ τ x1 x2) := by
  unfold B_X12_give_0
  refine ok_nm (fun s1 e1 => ok_bd (zp_by hN (zm_up h e1 (by omega))) (fun _ σ2 τ2 h2 => ?_))
  refine ok_bd2 (w_gives hN h2.1) (fun r σ3 τ3 e3 q1 => ?_)
  have f := (fr_B_X12_gives_0 N σ2 τ2 x1 x2 e3).1
  have h3 : ZP σ3 g B := zp_g h2 q1 h2.2.1 (by omega) (fun c k hh => f c k (by omega))
  exact ok_ite (fun _ => ok_bd (z_adds hN h3 hB) (fun r5 σ5 τ5 h5 => ok_r h5)) (fun _ => ok_r (zp_n h3 hB))
theorem shl_v {p v : Int32} (h : 0 ≤ p.toInt ∧ p.toInt < 12) (hv : 0 ≤ v.toInt ∧ v.toInt ≤ 1) : 0 ≤ (v <<< (p &&& 31)).toInt ∧ (v <<< (p &&& 31)).toInt < (2 ^ 12 : Nat) := by
  rcases (show v.toInt = 0 ∨ v.toInt = 1 by omega) with e1 | e1 <;> rcases (show p.toInt = 0 ∨ p.toInt = 1 ∨ p.toInt = 2 ∨ p.toInt = 3 ∨ p.toInt = 4 ∨ p.toInt = 5 ∨ p.toInt = 6 ∨ p.toInt = 7 ∨ p.toInt = 8 ∨ p.toInt = 9 ∨ p.toInt = 10 ∨ p.toInt = 11 by omega) with e | e | e | e | e | e | e | e | e | e | e | e <;> (rw [i32_of e, i32_of e1]; decide +kernel)
theorem z_plank (hN : 4294967296 ≤ N) {x1 x2 : Int32} {B1 : Int} (h : ZM σ g B) (hB : B ≤ B1) : okp (fun (a : Int32) σ1 τ1 => ZN σ1 B1) (B_X12_plank_0 N σ τ x1 x2) := by
  unfold B_X12_plank_0
  have hg := qb_rng h.1
  have l0 : (0 : Int32).toInt = 0 := rfl
  refine ok_nm (fun s1 e1 => ?_)
  have h1 := zm_up h e1 (by omega)
  refine ok_bd (w_B_X12_isFork_0 hN h1.1) (fun r2 σ2 τ2 h2 => ?_)
  obtain ⟨h9, h2⟩ := h2
  subst h9
  refine ok_ite (fun _ => ok_r (zm_n h1 hB)) (fun c => ?_)
  rw [fa_eq] at c
  refine ok_bd (w_B_X12_in_0 hN) (fun r4 σ4 τ4 h4 => ?_)
  obtain ⟨h9, h4⟩ := h4
  subst h9
  have k4 := h4.2
  simp only [Int32.toInt_toInt64, show (0 : Int64).toInt = 0 from rfl, show (1 : Int64).toInt = 1 from rfl] at k4
  refine ok_ite (fun _ => ok_r (zm_n h1 hB)) (fun c4 => ?_)
  rw [fa_eq] at c4
  refine ok_bd (zp_by hN h1) (fun _ σ6 τ6 h6 => ok_nm (fun s7 e7 => ?_))
  have p6 := qb_P h6.1
  have hv := or_rg 12 (by omega) (and_rg (a := σ6 206 42) (b := (1 <<< (x1 &&& 31)) ^^^ (-1)) 12 (by omega) (by omega)) (shl_v (p := x1) (v := x2) (by omega) (by omega))
  have q7 := qb_planks h6.1 e7 (by omega)
  have h7 := zp_g h6 q7 h6.2.1 (Int.le_refl B) (fun c k hh => by rw [e7]; exact up2_ne (by omega))
  exact ok_bd (z_adds hN h7 hB) (fun r8 σ8 τ8 h8 => ok_ite (fun _ => ok_r h8) (fun _ => ok_r h8))
theorem z_sheet (hN : 4294967296 ≤ N) {x1 x2 x3 x4 : Int32} {B1 : Int} (h : ZM σ g B) (hB : B ≤ B1) : okp (fun (a : Int32) σ1 τ1 => ZN σ1 B1) (B_X12_sheet_0 N σ τ x1 x2 x3 x4) := by
  unfold B_X12_sheet_0
  have hg := qb_rng h.1
  have l0 : (0 : Int32).toInt = 0 := rfl
  have l1 : (1 : Int32).toInt = 1 := rfl
  refine ok_nm (fun s1 e1 => ?_)
  have h1 := zm_up h e1 (by omega)
  refine ok_bd (w_B_X12_in_0 hN) (fun r2 σ2 τ2 h2 => ?_)
  obtain ⟨h9, h2⟩ := h2
  subst h9
  suffices H : ∀ (n : Nat) (σ : gI) (τ : gJ) (x5 x6 x7 : Int32), ZM σ g B → (0 ≤ x7.toInt ∧ x7.toInt ≤ 6) → (7 - x7.toInt).toNat < n → okp (fun (a : Int32) σ1 τ1 => ZN σ1 B1) (H_X12_sheet_46 N n σ τ x1 x2 x4 x5 x6 x7) from ok_ite (fun _ => ok_r (zm_n h1 hB)) (fun _ => ok_ite (fun _ => ok_ite (fun _ => H N _ _ _ _ _ h1 (by omega) (by omega)) (fun _ => ok_ite (fun _ => H N _ _ _ _ _ h1 (by omega) (by omega)) (fun _ => ok_r (zm_n h1 hB)))) (fun _ => ok_r (zm_n h1 hB)))
  intro n
  induction n with
  | zero => intro σ τ x5 x6 x7 _ _ hm; exact absurd hm (Nat.not_lt_zero _)
  | succ n ih =>
    intro σ τ x5 x6 x7 h h7 hm
    show okp _ (C_X12_sheet_46 N (H_X12_sheet_46 N n) σ τ x1 x2 x4 x5 x6 x7)
    have pM := qb_M h.1
    have P120 : ∀ y0 : Int32, x7.toInt < (g 1).toInt → okp (fun (a : Int32) σ1 τ1 => ZN σ1 B1) (B_X12_sheet_120 N (H_X12_sheet_46 N n) σ τ x1 x2 x4 x5 x6 x7 y0 ((7 * x7) + 1)) := by
      intro y0 hlt
      unfold B_X12_sheet_120
      have i1 := ti_7k (x := x7) (k := 1) (by omega) (by omega)
      refine ok_ck ⟨by omega, by omega⟩ (fun j hj lj => ok_nm (fun s2 e2 => ok_ck ⟨by omega, by omega⟩ (fun j3 hj3 lj3 => ok_nm (fun v4 _ => ok_nm (fun v5 _ => ok_nm (fun v6 e6 => ?_))))))
      have eu : v6.toInt = x7.toInt + 1 := by rw [e6, ti_add (by omega) (by omega), l1]
      have q2 := qb_own h.1 e2 (by omega)
      obtain ⟨a, b, c, d, e, i⟩ := h
      have f : ∀ c k : Nat, c ≠ 206 → s2 c k = σ c k := fun c k hc => by rw [e2]; exact up2_ne (by omega)
      have e36 := f 199 36 (by omega)
      refine ih _ _ _ _ _ ⟨q2, b, by rw [e36]; exact c, by rw [e36]; exact uu_fr d (fun c k hh => f c k (by omega)) (by omega), ki_fr e (fun c k hh => f c k (by omega)) (by omega), by rw [f 199 13 (by omega)]; exact i⟩ (by omega) (by omega)
    have P81 : ∀ y0 : Int32, x7.toInt < (g 1).toInt → okp (fun (a : Int32) σ1 τ1 => ZN σ1 B1) (B_X12_sheet_81 N (H_X12_sheet_46 N n) σ τ x1 x2 x4 x5 x6 x7 y0) := by
      intro y0 hlt
      unfold B_X12_sheet_81
      exact ok_ite (fun _ => P120 _ hlt) (fun _ => ok_ite (fun _ => P120 _ hlt) (fun _ => P120 _ hlt))
    unfold C_X12_sheet_46
    refine ok_ite (fun _ => ok_ite (fun _ => ok_r (zm_n h hB)) (fun _ => ok_r (zm_n h hB))) (fun c => ?_)
    rw [fa_le] at c
    exact ok_ite (fun _ => P81 _ (by omega)) (fun _ => ok_ite (fun _ => P81 _ (by omega)) (fun _ => P81 _ (by omega)))
theorem z_run (hN : 4294967296 ≤ N) {x1 : Int32} {B1 : Int} (h : ZM σ g B) (hB : B + 6000 ≤ B1) (hB9 : B1 ≤ 900000000) : okp (fun (a : Int32) σ1 τ1 => ZN σ1 B1) (B_X12_run_0 N σ τ x1) := by
  unfold B_X12_run_0
  have hg := qb_rng h.1
  have l0 : (0 : Int32).toInt = 0 := rfl
  have l1 : (1 : Int32).toInt = 1 := rfl
  refine ok_nm (fun s1 e1 => ?_)
  have h1 := zm_up h e1 (by omega)
  refine ok_bd (w_B_X12_in_0 hN) (fun r2 σ2 τ2 h2 => ?_)
  obtain ⟨h9, h2⟩ := h2
  subst h9
  have k2 := h2.2
  simp only [Int32.toInt_toInt64, show (0 : Int64).toInt = 0 from rfl, show (99 : Int64).toInt = 99 from rfl] at k2
  refine ok_ite (fun _ => ok_r (zm_n h1 (by omega))) (fun c2 => ?_)
  rw [fa_eq] at c2
  refine ok_bd (zp_by hN h1) (fun _ σ4 τ4 h4 => ?_)
  refine ok_bd (w_those6 hN h4.1) (fun r5 σ5 τ5 h5 => ?_)
  obtain ⟨h9, h5⟩ := h5
  subst h9
  refine ok_bd (w_those6 hN h4.1) (fun r6 σ6 τ6 h6 => ?_)
  obtain ⟨h9, h6⟩ := h6
  subst h9
  suffices H : ∀ (n : Nat) (σ : gI) (τ : gJ) (g : Nat → Int32) (x4 : Int32), ZP σ g (B + x4.toInt) → (0 ≤ x4.toInt ∧ x4.toInt ≤ 100) → (101 - x4.toInt).toNat < n → okp (fun (a : Int32) σ1 τ1 => ZN σ1 B1) (H_X12_run_44 N n σ τ x1 r5 r6 x4) from H N _ _ g 0 (by rw [l0]; simpa using h4) (by omega) (by omega)
  intro n
  induction n with
  | zero => intro σ τ g x4 _ _ hm; exact absurd hm (Nat.not_lt_zero _)
  | succ n ih =>
    intro σ τ g x4 h h0 hm
    show okp _ (C_X12_run_44 N (H_X12_run_44 N n) σ τ x1 r5 r6 x4)
    unfold C_X12_run_44
    have hg := qb_rng h.1
    refine ok_ite (fun _ => ok_nm (fun s2 e2 => ?_)) (fun c => ?_)
    · have q2 := qb_r0 h.1 e2
      refine ok_bd (w_those6 hN q2) (fun r3 σ3 τ3 h3 => ?_)
      obtain ⟨h9, h3⟩ := h3
      subst h9
      refine ok_bd (w_B_X12_enters_0 hN q2 (by omega)) (fun _ σ4 τ4 h4 => ?_)
      refine ok_bd (w_those6 hN h4.1) (fun r5 σ5 τ5 h5 => ?_)
      obtain ⟨h9, h5⟩ := h5
      subst h9
      refine ok_bd (w_B_X12_enters_0 hN h4.1 (by omega)) (fun _ σ6 τ6 h6 => ?_)
      refine ok_bd (w_those6 hN h6.1) (fun r7 σ7 τ7 h7 => ?_)
      obtain ⟨h9, h7⟩ := h7
      subst h9
      refine ok_bd (w_B_J6_bitCount_0f7a4_0 hN) (fun r8 σ8 τ8 h8 => ?_)
      obtain ⟨h9, h8⟩ := h8
      subst h9
      have hz := zp_g h (qb_w h6.1 (by omega)) h.2.1 (Int.le_refl _) (fun c k hh => (h6.2 c k (by omega)).trans ((h4.2 c k (by omega)).trans (by rw [e2]; exact up2_ne (by omega))))
      exact ok_ite (fun _ => ok_r (zp_n hz (by omega))) (fun _ => ok_bd (z_adds hN hz (by omega)) (fun r9 σ9 τ9 h9 => ok_r h9))
    · rw [fa_le] at c
      have h22 := h.2.1
      refine ok_bd2 (w_minute6 hN h.1 (by omega)) (fun r σ3 τ3 e3 h3 => ok_nm (fun v ev => ?_))
      obtain ⟨g1, q1, q2, q3, q4, q5, q6⟩ := h3
      have f := (fr_B_X12_minuteGoes_0 N 206 σ τ e3).1
      have eu : v.toInt = x4.toInt + 1 := by rw [ev, ti_add (by omega) (by omega), l1]
      exact ih σ3 τ3 g1 v (zp_g h q1 (by omega) (by omega) (fun c k hh => f c k (by omega))) (by omega) (by omega)
end ZS
