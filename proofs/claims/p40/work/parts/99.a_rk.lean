/-- whoever is under way (but x) stands at no kitchen -/
def RK (σ : gI) (q : Nat) (M4 : Int32) (x : Int) : Prop := ∀ t : Nat, (t : Int) < M4.toInt → (t : Int) ≠ x → σ q (7 * t + 4) = 0 → σ 201 (σ q (7 * t)).toInt.toNat ≠ 6
theorem rk_fr {σ σ1 : gI} {q : Nat} {M4 : Int32} {x : Int} (h : RK σ q M4 x) (g : ∀ c k : Nat, c = q ∨ c = 201 → σ1 c k = σ c k) : RK σ1 q M4 x := by
  intro t ht hx h0
  rw [g q _ (Or.inl rfl)] at h0
  rw [g q _ (Or.inl rfl), g 201 _ (Or.inr rfl)]
  exact h t ht hx h0
theorem rk_up {σ σ2 : gI} {q c j : Nat} {v M4 : Int32} {x : Int} (h : RK σ q M4 x) (e : σ2 = up2 σ c j v) (hc : c ≠ q ∧ c ≠ 201) : RK σ2 q M4 x :=
  rk_fr h (fun c9 k9 h9 => by rw [e]; exact up2_ne (by omega))
theorem rk_wr {σ σ2 : gI} {q j : Nat} {v M4 : Int32} {x : Int} (h : RK σ q M4 x) (e : σ2 = up2 σ q j v) (hq : q ≠ 201) (hj : 7 * x ≤ j ∧ (j : Int) < 7 * x + 7) : RK σ2 q M4 x := by
  subst e
  intro t ht hx h0
  rw [up2_ne (by omega)] at h0
  rw [up2_ne (σ := σ) (c := q) (j := j) (c9 := q) (by omega), up2_ne (by omega)]
  exact h t ht hx h0
theorem rk_last {σ σ2 : gI} {q j : Nat} {v M4 : Int32} {x : Int} (h : RK σ q M4 x) (e : σ2 = up2 σ q j v) (hq : q ≠ 201) (hM : M4.toInt ≤ 6) (hj : 42 ≤ j) : RK σ2 q M4 x := by
  subst e
  intro t ht hx h0
  rw [up2_ne (by omega)] at h0
  rw [up2_ne (σ := σ) (c := q) (j := j) (c9 := q) (by omega), up2_ne (by omega)]
  exact h t ht hx h0
theorem rk_weak {σ : gI} {q : Nat} {M4 : Int32} (x : Int) (h : RK σ q M4 (-1)) : RK σ q M4 x := fun t ht _ h0 => h t ht (by omega) h0
theorem rk_whole {σ : gI} {q : Nat} {M4 : Int32} {x : Int} (h : RK σ q M4 x) (hx : ∀ t : Nat, (t : Int) = x → σ q (7 * t + 4) = 0 → σ 201 (σ q (7 * t)).toInt.toNat ≠ 6) : RK σ q M4 (-1) := fun t ht _ h0 => by
  by_cases hh : (t : Int) = x
  · exact hx t hh h0
  · exact h t ht hh h0
