/-! WHAT THE REFERENCE KEEPS -/
def eff (v : Int32) : Int := if v = 3000 then 0 else if v.toInt < 2000 then 1 else -1
def need (v : Int32) : Int := if v = 3000 then 1 else if v.toInt < 2000 then 0 else 2
def dep (f : Nat → Int32) : Nat → Int
  | 0 => 0
  | k + 1 => dep f k + eff (f k)
theorem dep_le (f : Nat → Int32) : ∀ k : Nat, dep f k ≤ k
  | 0 => by simp [dep]
  | k + 1 => by
    have h := dep_le f k
    have h2 : eff (f k) ≤ 1 := by unfold eff; split <;> (try split) <;> omega
    simp only [dep]
    omega
theorem dep_congr {f g : Nat → Int32} : ∀ {n : Nat}, (∀ k, k < n → f k = g k) → dep f n = dep g n
  | 0, _ => rfl
  | n + 1, h => by
    simp only [dep]
    rw [dep_congr (fun k hk => h k (by omega)), h n (by omega)]

def TI (σ : gI) : Prop := (0 ≤ (σ 199 3).toInt ∧ (σ 199 3).toInt ≤ 12) ∧ ∀ p : Nat, (p : Int) < (σ 199 3).toInt → (σ 201 p ≠ 6 → 0 ≤ (σ 202 p).toInt ∧ (σ 202 p).toInt < (σ 199 3).toInt) ∧ (σ 201 p = 1 → 0 ≤ (σ 203 p).toInt ∧ (σ 203 p).toInt < (σ 199 3).toInt) ∧ (σ 201 p = 5 → σ 204 p ≠ 0)
def WI (σ : gI) : Prop := 0 ≤ (σ 199 4).toInt ∧ (σ 199 4).toInt ≤ 40
def CI (σ : gI) : Prop := (0 ≤ (σ 199 28).toInt ∧ (σ 199 28).toInt ≤ 80) ∧ ∀ k : Nat, (k : Int) < (σ 199 28).toInt → need (σ 216 k) ≤ dep (σ 216) k
def SI (σ : gI) : Prop := TI σ ∧ WI σ ∧ CI σ
def sD (c k : Nat) : Prop := (c = 199 ∧ (k = 3 ∨ k = 4 ∨ k = 28)) ∨ (201 ≤ c ∧ c ≤ 204) ∨ c = 216
theorem si_fr {σ σ1 : gI} (h : SI σ) (g : ∀ c k : Nat, (c = 199 ∧ (k = 3 ∨ k = 4 ∨ k = 28)) ∨ (201 ≤ c ∧ c ≤ 204) ∨ c = 216 → σ1 c k = σ c k) : SI σ1 := by
  have e3 := g 199 3 (by omega)
  have e4 := g 199 4 (by omega)
  have e28 := g 199 28 (by omega)
  have e1 : ∀ p, σ1 201 p = σ 201 p := fun p => g 201 p (by omega)
  have e2 : ∀ p, σ1 202 p = σ 202 p := fun p => g 202 p (by omega)
  have e5 : ∀ p, σ1 203 p = σ 203 p := fun p => g 203 p (by omega)
  have e6 : ∀ p, σ1 204 p = σ 204 p := fun p => g 204 p (by omega)
  have e7 : σ1 216 = σ 216 := funext fun p => g 216 p (by omega)
  obtain ⟨⟨a1, a2⟩, b, c1, c2⟩ := h
  refine ⟨⟨?_, fun p hp => ?_⟩, ?_, ?_, fun k hk => ?_⟩
  · show 0 ≤ (σ1 199 3).toInt ∧ (σ1 199 3).toInt ≤ 12
    rw [e3]; exact a1
  · have hp' : (p : Int) < (σ 199 3).toInt := by show (p : Int) < (σ 199 3).toInt; rw [← e3]; exact hp
    have epl : (σ1 199 3).toInt = (σ 199 3).toInt := by show (σ1 199 3).toInt = (σ 199 3).toInt; rw [e3]
    rw [e1, e2, e5, e6, epl]
    exact a2 p hp'
  · unfold WI; rw [e4]; exact b
  · rw [e28]; exact c1
  · rw [e7]; rw [e28] at hk; exact c2 k hk
theorem si_up {σ σ2 : gI} {c j : Nat} {v : Int32} (h : SI σ) (e : σ2 = up2 σ c j v) (hc : ¬ ((c = 199 ∧ (j = 3 ∨ j = 4 ∨ j = 28)) ∨ (201 ≤ c ∧ c ≤ 204) ∨ c = 216)) : SI σ2 :=
  si_fr h (fun c9 k9 h9 => by rw [e]; exact up2_ne (by omega))
/-- a row: how many, now, planks, and that each is at a place -/
def RJ (σ : gI) (q : Nat) (M4 N4 P4 : Int32) : Prop := σ q 42 = P4 ∧ σ q 43 = N4 ∧ σ q 44 = M4 ∧ ∀ t : Nat, (t : Int) < M4.toInt → 0 ≤ (σ q (7 * t)).toInt ∧ (σ q (7 * t)).toInt < (σ 199 3).toInt
theorem rj_fr {σ σ1 : gI} {q : Nat} {M4 N4 P4 : Int32} (h : RJ σ q M4 N4 P4) (g : ∀ c k : Nat, c = q ∨ (c = 199 ∧ k = 3) → σ1 c k = σ c k) : RJ σ1 q M4 N4 P4 := by
  obtain ⟨h1, h2, h3, h4⟩ := h
  refine ⟨(g q 42 (Or.inl rfl)).trans h1, (g q 43 (Or.inl rfl)).trans h2, (g q 44 (Or.inl rfl)).trans h3, fun t ht => ?_⟩
  rw [g q (7 * t) (Or.inl rfl)]
  show _ ∧ _ < (σ1 199 3).toInt
  rw [g 199 3 (Or.inr ⟨rfl, rfl⟩)]
  exact h4 t ht
theorem rj_up {σ σ2 : gI} {q c j : Nat} {v M4 N4 P4 : Int32} (h : RJ σ q M4 N4 P4) (e : σ2 = up2 σ c j v) (hc : c ≠ q ∧ ¬ (c = 199 ∧ j = 3)) : RJ σ2 q M4 N4 P4 :=
  rj_fr h (fun c9 k9 h9 => by rw [e]; exact up2_ne (by omega))
/-- a write into the row: not its last three; where it is a place's, a place -/
theorem rj_upq {σ σ2 : gI} {q j : Nat} {v M4 N4 P4 : Int32} (h : RJ σ q M4 N4 P4) (e : σ2 = up2 σ q j v) (hq : q ≠ 199) (hM : M4.toInt ≤ 6) (hj : j < 42) (hv : j % 7 = 0 → 0 ≤ v.toInt ∧ v.toInt < (σ 199 3).toInt) : RJ σ2 q M4 N4 P4 := by
  subst e
  obtain ⟨h1, h2, h3, h4⟩ := h
  have e3 : up2 σ q j v 199 3 = σ 199 3 := up2_ne (by omega)
  refine ⟨(up2_ne (by omega)).trans h1, (up2_ne (by omega)).trans h2, (up2_ne (by omega)).trans h3, fun t ht => ?_⟩
  show _ ∧ _ < (up2 σ q j v 199 3).toInt
  rw [e3]
  by_cases hjt : 7 * t = j
  · have : up2 σ q j v q (7 * t) = v := by unfold up2; rw [if_pos ⟨rfl, hjt⟩]
    rw [this]
    exact hv (by omega)
  · rw [up2_ne (by omega)]
    exact h4 t ht
theorem rj_now {σ σ2 : gI} {q : Nat} {v M4 N4 P4 : Int32} (h : RJ σ q M4 N4 P4) (e : σ2 = up2 σ q 43 v) (hq : q ≠ 199) (hM : M4.toInt ≤ 6) : RJ σ2 q M4 v P4 := by
  subst e
  obtain ⟨h1, h2, h3, h4⟩ := h
  have e3 : up2 σ q 43 v 199 3 = σ 199 3 := up2_ne (by omega)
  refine ⟨(up2_ne (by omega)).trans h1, by unfold up2; rw [if_pos ⟨rfl, rfl⟩], (up2_ne (by omega)).trans h3, fun t ht => ?_⟩
  show _ ∧ _ < (up2 σ q 43 v 199 3).toInt
  rw [e3, up2_ne (by omega)]
  exact h4 t ht
theorem rj_at {σ : gI} {q : Nat} {M4 N4 P4 x : Int32} {j : Nat} (h : RJ σ q M4 N4 P4) (hx : 0 ≤ x.toInt ∧ x.toInt < M4.toInt) (hj : (j : Int) = 7 * x.toInt) : 0 ≤ (σ q j).toInt ∧ (σ q j).toInt < (σ 199 3).toInt := by
  have h1 := h.2.2.2 x.toInt.toNat (by omega)
  rw [show 7 * x.toInt.toNat = j by omega] at h1
  exact h1
theorem ti_mul7 {x : Int32} (h : -300000000 ≤ x.toInt ∧ x.toInt ≤ 300000000) : (7 * x).toInt = 7 * x.toInt := by
  have e : (7 : Int32).toInt = 7 := rfl
  rw [ti_mul (by rw [e]; omega) (by rw [e]; omega), e]
theorem ti_mul45 {x : Int32} (h : -40000000 ≤ x.toInt ∧ x.toInt ≤ 40000000) : (45 * x).toInt = 45 * x.toInt := by
  have e : (45 : Int32).toInt = 45 := rfl
  rw [ti_mul (by rw [e]; omega) (by rw [e]; omega), e]
theorem ok_bd2 {α β : Type} {Q : β → gI → gJ → Prop} {P : α → gI → gJ → Prop} {x : Option (β × gI × gJ)} {k : β → gI → gJ → Option (α × gI × gJ)} (h : okp Q x) (hk : ∀ b σ τ, x = some (b, σ, τ) → Q b σ τ → okp P (k b σ τ)) : okp P (bd x k) := by
  obtain ⟨b, σ, τ, rfl, hq⟩ := h
  exact hk b σ τ rfl hq
