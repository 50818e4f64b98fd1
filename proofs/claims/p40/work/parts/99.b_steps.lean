/-- a row in whose thing x may be on its way from place to place -/
def ST (q : Nat) (M4 N4 P4 : Int32) (σ : gI) (x : Int32) : Prop := RJ σ q M4 N4 P4 ∧ SI σ ∧ RK σ q M4 x.toInt
theorem st_own {q j : Nat} {M4 N4 P4 x v : Int32} {σ σ2 : gI} (h : ST q M4 N4 P4 σ x) (e : σ2 = up2 σ q j v) (hq : q = 206 ∨ q = 207 ∨ q = 224) (hM : M4.toInt ≤ 6) (hx : 0 ≤ x.toInt ∧ x.toInt < M4.toInt) (hj : 7 * x.toInt ≤ j ∧ (j : Int) < 7 * x.toInt + 7) (hv : (j : Int) = 7 * x.toInt → 0 ≤ v.toInt ∧ v.toInt < (σ 199 3).toInt) : ST q M4 N4 P4 σ2 x :=
  ⟨rj_upq h.1 e (by omega) hM (by omega) (fun h9 => hv (by omega)), si_up h.2.1 e (by omega), rk_wr h.2.2 e (by omega) hj⟩
theorem st_up {q c j : Nat} {M4 N4 P4 x v : Int32} {σ σ2 : gI} (h : ST q M4 N4 P4 σ x) (e : σ2 = up2 σ c j v) (hq : q = 206 ∨ q = 207 ∨ q = 224) (hc : c ≠ q ∧ ¬ ((c = 199 ∧ (j = 3 ∨ j = 4 ∨ j = 28)) ∨ (201 ≤ c ∧ c ≤ 204) ∨ c = 216)) : ST q M4 N4 P4 σ2 x :=
  ⟨rj_up h.1 e (by omega), si_up h.2.1 e (by omega), rk_up h.2.2 e (by omega)⟩
theorem st_fr {q : Nat} {M4 N4 P4 x : Int32} {σ σ2 : gI} (h : ST q M4 N4 P4 σ x) (g : ∀ c k : Nat, σ2 c k = σ c k) : ST q M4 N4 P4 σ2 x :=
  ⟨rj_fr h.1 (fun c k _ => g c k), si_fr h.2.1 (fun c k _ => g c k), rk_fr h.2.2 (fun c k _ => g c k)⟩
theorem st_ends (N : Nat) {q : Nat} {M4 N4 P4 x : Int32} {σ : gI} (τ : gJ) (how : Int32) (h : ST q M4 N4 P4 σ x) (hq : q = 206 ∨ q = 207 ∨ q = 224) (hM : M4.toInt ≤ 6) (hx : 0 ≤ x.toInt ∧ x.toInt < M4.toInt) : okp (fun (_ : Unit) σ1 τ1 => ST q M4 N4 P4 σ1 x ∧ σ1 q (7 * x.toInt.toNat + 4) = how ∧ (∀ c k : Nat, ¬ (c = q ∧ (k = 7 * x.toInt.toNat + 4 ∨ k = 7 * x.toInt.toNat + 6)) → σ1 c k = σ c k)) (B_X12_ends_0 N q σ τ x how) := by
  unfold B_X12_ends_0
  have o7 := ti_mul7 (x := x) (by omega)
  have o4 : (4 : Int32).toInt = 4 := rfl
  have o6 : (6 : Int32).toInt = 6 := rfl
  have e4 : (7 * x + 4).toInt = 7 * x.toInt + 4 := by rw [ti_add (by omega) (by omega), o7, o4]
  have e6 : (7 * x + 6).toInt = 7 * x.toInt + 6 := by rw [ti_add (by omega) (by omega), o7, o6]
  refine ok_ck ⟨by omega, by show _ < (45 : Int); omega⟩ (fun j1 hj1 lj1 => ok_nm (fun σ1 es1 => ok_ck ⟨by omega, by show _ < (45 : Int); omega⟩ (fun j2 hj2 lj2 => ok_nm (fun σ2 es2 => ok_r ?_))))
  have k1 : j1 = 7 * x.toInt.toNat + 4 := by omega
  have k2 : j2 = 7 * x.toInt.toNat + 6 := by omega
  have h1 := st_own h es1 hq hM hx (by omega) (by omega)
  have h2 := st_own h1 es2 hq hM hx (by omega) (by omega)
  refine ⟨h2, ?_, fun c k hh => ?_⟩
  · rw [es2, up2_ne (by omega), es1, k1]
    unfold up2
    rw [if_pos ⟨rfl, rfl⟩]
  · rw [es2, up2_ne (by omega), es1, up2_ne (by omega)]
