/-! WHAT EVERY CALL OF THE REFERENCE FINDS: town, water, code, the row of now, corks, the row of answers -/
def CK (σ : gI) : Prop := (0 ≤ (σ 199 52).toInt ∧ (σ 199 52).toInt ≤ 10) ∧ ∀ k : Nat, (k : Int) < (σ 199 52).toInt → (0 ≤ (σ 226 k).toInt ∧ (σ 226 k).toInt < (σ 199 3).toInt) ∧ (0 ≤ (σ 227 k).toInt ∧ (σ 227 k).toInt ≤ 999)
def QB (R : Int) (σ : gI) (g : Nat → Int32) : Prop := SI σ ∧ RJ σ 206 (g 1) (g 2) (g 3) ∧ RK σ 206 (g 1) (-1) ∧ ((0 ≤ (g 1).toInt ∧ (g 1).toInt ≤ 6) ∧ (0 ≤ (g 2).toInt ∧ (g 2).toInt ≤ 1000000000) ∧ (0 ≤ (g 3).toInt ∧ (g 3).toInt < 4096)) ∧ (0 ≤ (σ 199 1).toInt ∧ (σ 199 1).toInt ≤ R) ∧ CK σ ∧ (0 ≤ (σ 199 46).toInt ∧ (σ 199 46).toInt ≤ 1000000000) ∧ σ 199 3 = g 0 ∧ σ 199 52 = g 4
def zQ (c k : Nat) : Prop := (c = 199 ∧ (k = 3 ∨ k = 4 ∨ k = 28 ∨ k = 52)) ∨ (201 ≤ c ∧ c ≤ 204) ∨ c = 206 ∨ c = 216 ∨ c = 226 ∨ c = 227
theorem qb_fr0 {R R1 : Int} {σ σ1 : gI} {g : Nat → Int32} (h : QB R σ g) (f : ∀ c k : Nat, (c = 199 ∧ (k = 3 ∨ k = 4 ∨ k = 28 ∨ k = 52)) ∨ (201 ≤ c ∧ c ≤ 204) ∨ c = 206 ∨ c = 216 ∨ c = 226 ∨ c = 227 → σ1 c k = σ c k) (h1 : 0 ≤ (σ1 199 1).toInt ∧ (σ1 199 1).toInt ≤ R1) (h46 : 0 ≤ (σ1 199 46).toInt ∧ (σ1 199 46).toInt ≤ 1000000000) : QB R1 σ1 g := by
  obtain ⟨a, b, c, d, e, ⟨k1, k2⟩, i, j, m⟩ := h
  have e52 := f 199 52 (by omega)
  have e3 := f 199 3 (by omega)
  refine ⟨si_fr a (fun c k h => f c k (by omega)), rj_fr b (fun c k h => f c k (by omega)), rk_fr c (fun c k h => f c k (by omega)), d, h1, ⟨?_, fun k hk => ?_⟩, h46, e3.trans j, e52.trans m⟩
  · rw [e52]; exact k1
  · rw [e52] at hk
    rw [f 226 k (by omega), f 227 k (by omega), e3]
    exact k2 k hk
theorem qb_fr {R : Int} {σ σ1 : gI} {g : Nat → Int32} (h : QB R σ g) (f : ∀ c k : Nat, (c = 199 ∧ (k = 1 ∨ k = 3 ∨ k = 4 ∨ k = 28 ∨ k = 46 ∨ k = 52)) ∨ (201 ≤ c ∧ c ≤ 204) ∨ c = 206 ∨ c = 216 ∨ c = 226 ∨ c = 227 → σ1 c k = σ c k) : QB R σ1 g :=
  qb_fr0 h (fun c k hh => f c k (by omega)) (by rw [f 199 1 (by omega)]; exact h.2.2.2.2.1) (by rw [f 199 46 (by omega)]; exact h.2.2.2.2.2.2.1)
theorem qb_up {R : Int} {σ σ2 : gI} {g : Nat → Int32} {c j : Nat} {v : Int32} (h : QB R σ g) (e : σ2 = up2 σ c j v) (hc : ¬ ((c = 199 ∧ (j = 1 ∨ j = 3 ∨ j = 4 ∨ j = 28 ∨ j = 46 ∨ j = 52)) ∨ (201 ≤ c ∧ c ≤ 204) ∨ c = 206 ∨ c = 216 ∨ c = 226 ∨ c = 227)) : QB R σ2 g :=
  qb_fr h (fun c9 k9 h9 => by rw [e]; exact up2_ne (by omega))
theorem qb_r0 {R : Int} {σ σ2 : gI} {g : Nat → Int32} (h : QB R σ g) (e : σ2 = up2 σ 199 1 0) : QB 0 σ2 g :=
  qb_fr0 h (fun c9 k9 h9 => by rw [e]; exact up2_ne (by omega)) (by rw [e]; unfold up2; rw [if_pos ⟨rfl, rfl⟩]; decide) (by rw [e, up2_ne (by omega)]; exact h.2.2.2.2.2.2.1)
theorem qb_w {R R1 : Int} {σ : gI} {g : Nat → Int32} (h : QB R σ g) (hR : R ≤ R1) : QB R1 σ g := by
  obtain ⟨a, b, c, d, e, k, i, j, m⟩ := h
  exact ⟨a, b, c, d, ⟨e.1, by omega⟩, k, i, j, m⟩
theorem qb_rng {R : Int} {σ : gI} {g : Nat → Int32} (h : QB R σ g) : (0 ≤ (g 0).toInt ∧ (g 0).toInt ≤ 12) ∧ (0 ≤ (g 1).toInt ∧ (g 1).toInt ≤ 6) ∧ (0 ≤ (g 2).toInt ∧ (g 2).toInt ≤ 1000000000) ∧ (0 ≤ (g 3).toInt ∧ (g 3).toInt < 4096) ∧ (0 ≤ (g 4).toInt ∧ (g 4).toInt ≤ 10) := by
  obtain ⟨a, b, c, d, e, k, i, j, m⟩ := h
  refine ⟨?_, d.1, d.2.1, d.2.2, ?_⟩
  · rw [← j]; exact a.1.1
  · rw [← m]; exact k.1
theorem qb_pl {R : Int} {σ : gI} {g : Nat → Int32} (h : QB R σ g) : (σ 199 3).toInt = (g 0).toInt := by rw [h.2.2.2.2.2.2.2.1]
theorem qb_co {R : Int} {σ : gI} {g : Nat → Int32} (h : QB R σ g) : (σ 199 52).toInt = (g 4).toInt := by rw [h.2.2.2.2.2.2.2.2]
theorem qb_M {R : Int} {σ : gI} {g : Nat → Int32} (h : QB R σ g) : (σ 206 44).toInt = (g 1).toInt := by rw [h.2.1.2.2.1]
theorem qb_N {R : Int} {σ : gI} {g : Nat → Int32} (h : QB R σ g) : (σ 206 43).toInt = (g 2).toInt := by rw [h.2.1.2.1]
theorem qb_P {R : Int} {σ : gI} {g : Nat → Int32} (h : QB R σ g) : (σ 206 42).toInt = (g 3).toInt := by rw [h.2.1.1]
theorem qb_ck {R : Int} {σ : gI} {g : Nat → Int32} {j : Nat} (h : QB R σ g) (hj : (j : Int) < (g 4).toInt) : (0 ≤ (σ 226 j).toInt ∧ (σ 226 j).toInt < (g 0).toInt) ∧ (0 ≤ (σ 227 j).toInt ∧ (σ 227 j).toInt ≤ 999) := by
  have h1 := h.2.2.2.2.2.1.2 j (by rw [qb_co h]; exact hj)
  rw [qb_pl h] at h1
  exact h1
/-- a row beside that of now -/
def GQ (σ : gI) (q : Nat) (M : Int32) (B : Int) : Prop := ∃ N4 P4 : Int32, RJ σ q M N4 P4 ∧ RK σ q M (-1) ∧ 0 ≤ N4.toInt ∧ N4.toInt ≤ B
theorem gq_w {σ : gI} {q : Nat} {M : Int32} {B B1 : Int} (h : GQ σ q M B) (hB : B ≤ B1) : GQ σ q M B1 := by
  obtain ⟨n, p, a, b, c, d⟩ := h
  exact ⟨n, p, a, b, c, by omega⟩
theorem gq_fr {σ σ1 : gI} {q : Nat} {M : Int32} {B : Int} (h : GQ σ q M B) (f : ∀ c k : Nat, c = q ∨ c = 201 ∨ (c = 199 ∧ k = 3) → σ1 c k = σ c k) : GQ σ1 q M B := by
  obtain ⟨n, p, a, b, c, d⟩ := h
  exact ⟨n, p, rj_fr a (fun c k h => f c k (by omega)), rk_fr b (fun c k h => f c k (by omega)), c, d⟩
theorem gq_up {σ σ2 : gI} {q c j : Nat} {M v : Int32} {B : Int} (h : GQ σ q M B) (e : σ2 = up2 σ c j v) (hc : ¬ (c = q ∨ c = 201 ∨ (c = 199 ∧ j = 3))) : GQ σ2 q M B :=
  gq_fr h (fun c9 k9 h9 => by rw [e]; exact up2_ne (by omega))
theorem gq_at {σ : gI} {q j : Nat} {M : Int32} {B : Int} (h : GQ σ q M B) (t : Nat) (ht : (t : Int) < M.toInt) (hj : j = 7 * t) : 0 ≤ (σ q j).toInt ∧ (σ q j).toInt < (σ 199 3).toInt := by
  obtain ⟨n, p, a, b, c, d⟩ := h
  rw [hj]
  exact a.2.2.2 t ht
theorem same_st {σ σ1 : gI} (h : ∀ c k : Nat, ¬ False → σ1 c k = σ c k) : σ = σ1 := funext fun c => funext fun k => (h c k id).symm
theorem ti_7k {x k : Int32} (h : 0 ≤ x.toInt ∧ x.toInt ≤ 1000) (hk : 0 ≤ k.toInt ∧ k.toInt ≤ 1000) : (7 * x + k).toInt = 7 * x.toInt + k.toInt := by
  have e := ti_mul7 (x := x) (by omega)
  rw [ti_add (by omega) (by omega), e]
theorem ti_45k {x k : Int32} (h : 0 ≤ x.toInt ∧ x.toInt ≤ 1000) (hk : 0 ≤ k.toInt ∧ k.toInt ≤ 1000) : (45 * x + k).toInt = 45 * x.toInt + k.toInt := by
  have e := ti_mul45 (x := x) (by omega)
  rw [ti_add (by omega) (by omega), e]
theorem nn_iff (x : Int32) (m : Nat) (hm : m ≤ 2147483648) : (0 ≤ x.toInt ∧ x.toInt < m) ↔ x.toBitVec.toNat < m := by
  have e : x.toInt = x.toBitVec.toInt := rfl
  have l := x.toBitVec.isLt
  rw [e, BitVec.toInt_eq_toNat_cond]
  split <;> omega
theorem or_rg {a b : Int32} (n : Nat) (hn : n ≤ 31) (ha : 0 ≤ a.toInt ∧ a.toInt < (2 ^ n : Nat)) (hb : 0 ≤ b.toInt ∧ b.toInt < (2 ^ n : Nat)) : 0 ≤ (a ||| b).toInt ∧ (a ||| b).toInt < (2 ^ n : Nat) := by
  have hm : 2 ^ n ≤ 2147483648 := Nat.pow_le_pow_right (n := 2) (by decide) hn
  rw [nn_iff _ _ hm] at ha hb ⊢
  rw [Int32.toBitVec_or, BitVec.toNat_or]
  exact Nat.or_lt_two_pow ha hb
theorem xor_rg {a b : Int32} (n : Nat) (hn : n ≤ 31) (ha : 0 ≤ a.toInt ∧ a.toInt < (2 ^ n : Nat)) (hb : 0 ≤ b.toInt ∧ b.toInt < (2 ^ n : Nat)) : 0 ≤ (a ^^^ b).toInt ∧ (a ^^^ b).toInt < (2 ^ n : Nat) := by
  have hm : 2 ^ n ≤ 2147483648 := Nat.pow_le_pow_right (n := 2) (by decide) hn
  rw [nn_iff _ _ hm] at ha hb ⊢
  rw [Int32.toBitVec_xor, BitVec.toNat_xor]
  exact Nat.xor_lt_two_pow ha hb
theorem and_rg {a b : Int32} (n : Nat) (hn : n ≤ 31) (ha : 0 ≤ a.toInt ∧ a.toInt < (2 ^ n : Nat)) : 0 ≤ (a &&& b).toInt ∧ (a &&& b).toInt < (2 ^ n : Nat) := by
  have hm : 2 ^ n ≤ 2147483648 := Nat.pow_le_pow_right (n := 2) (by decide) hn
  rw [nn_iff _ _ hm] at ha ⊢
  rw [Int32.toBitVec_and, BitVec.toNat_and]
  exact Nat.lt_of_le_of_lt Nat.and_le_left ha
theorem i32_of {p : Int32} {z : Int} (h : p.toInt = z) : p = Int32.ofInt z := by rw [← h, Int32.ofInt_toInt]
theorem shl_12 {p : Int32} (h : 0 ≤ p.toInt ∧ p.toInt < 12) : 0 ≤ ((1 : Int32) <<< (p &&& 31)).toInt ∧ ((1 : Int32) <<< (p &&& 31)).toInt < (2 ^ 12 : Nat) := by
  rcases (show p.toInt = 0 ∨ p.toInt = 1 ∨ p.toInt = 2 ∨ p.toInt = 3 ∨ p.toInt = 4 ∨ p.toInt = 5 ∨ p.toInt = 6 ∨ p.toInt = 7 ∨ p.toInt = 8 ∨ p.toInt = 9 ∨ p.toInt = 10 ∨ p.toInt = 11 by omega) with e | e | e | e | e | e | e | e | e | e | e | e <;> (rw [i32_of e]; decide +kernel)
theorem shl_6 {p : Int32} (h : 0 ≤ p.toInt ∧ p.toInt < 6) : 0 ≤ ((1 : Int32) <<< (p &&& 31)).toInt ∧ ((1 : Int32) <<< (p &&& 31)).toInt < (2 ^ 6 : Nat) := by
  rcases (show p.toInt = 0 ∨ p.toInt = 1 ∨ p.toInt = 2 ∨ p.toInt = 3 ∨ p.toInt = 4 ∨ p.toInt = 5 by omega) with e | e | e | e | e | e <;> (rw [i32_of e]; decide +kernel)
section PURE
variable {R : Int} {g : Nat → Int32} {σ : gI} {τ : gJ} {N : Nat}
theorem w_B_X12_in_0 (hN : 4294967296 ≤ N) {x0 x2 x4 : Int64} : okp (fun (a : Int32) σ1 τ1 => σ = σ1 ∧ (a = 0 ∨ a = 1) ∧ (a.toInt = 0 ∨ (a.toInt = 1 ∧ x2.toInt ≤ x0.toInt ∧ x0.toInt ≤ x4.toInt))) (B_X12_in_0 N σ τ x0 x2 x4) := by
  obtain ⟨a, σ1, τ1, e, h⟩ := m_B_X12_in_0 N hN σ τ x0 x2 x4
  exact ⟨a, σ1, τ1, e, same_st (fr_B_X12_in_0 N σ τ _ _ _ e).1, h⟩
theorem w_B_X12_has_0 (hN : 4294967296 ≤ N) {x0 x1 : Int32} : okp (fun (a : Int32) σ1 τ1 => σ = σ1 ∧ (a = 0 ∨ a = 1)) (B_X12_has_0 N σ τ x0 x1) := by
  obtain ⟨a, σ1, τ1, e, h⟩ := m_B_X12_has_0 N hN σ τ x0 x1
  exact ⟨a, σ1, τ1, e, same_st (fr_B_X12_has_0 N σ τ _ _ e).1, h⟩
theorem w_B_X12_flag_0 (hN : 4294967296 ≤ N) {x0 : Int32} : okp (fun (a : Int32) σ1 τ1 => σ = σ1 ∧ (a.toInt = 0 ∨ a.toInt = 1)) (B_X12_flag_0 N σ τ x0) := by
  obtain ⟨a, σ1, τ1, e, h⟩ := m_B_X12_flag_0 N hN σ τ x0
  refine ⟨a, σ1, τ1, e, same_st (fr_B_X12_flag_0 N σ τ _ e).1, ?_⟩
  rcases h.1 with rfl | rfl
  · exact Or.inl rfl
  · exact Or.inr rfl
theorem w_B_X12_isPlace_0 (hN : 4294967296 ≤ N) {x1 : Int32} (hQ : QB R σ g) : okp (fun (a : Int32) σ1 τ1 => σ = σ1 ∧ (a.toInt = 0 ∨ (a.toInt = 1 ∧ 0 ≤ x1.toInt ∧ x1.toInt < (g 0).toInt))) (B_X12_isPlace_0 N σ τ x1) := by
  obtain ⟨a, σ1, τ1, e, h⟩ := m_B_X12_isPlace_0 N hN σ τ x1 hQ.1
  have h2 := h.2
  rw [qb_pl hQ] at h2
  exact ⟨a, σ1, τ1, e, same_st (fr_B_X12_isPlace_0 N σ τ _ e).1, h2⟩
theorem w_B_X12_isKitchen_0 (hN : 4294967296 ≤ N) {x1 : Int32} (hQ : QB R σ g) : okp (fun (a : Int32) σ1 τ1 => σ = σ1 ∧ True) (B_X12_isKitchen_0 N σ τ x1) := by
  obtain ⟨a, σ1, τ1, e, h⟩ := m_B_X12_isKitchen_0 N hN σ τ x1 hQ.1
  exact ⟨a, σ1, τ1, e, same_st (fr_B_X12_isKitchen_0 N σ τ _ e).1, trivial⟩
theorem w_B_X12_isFork_0 (hN : 4294967296 ≤ N) {x1 : Int32} (hQ : QB R σ g) : okp (fun (a : Int32) σ1 τ1 => σ = σ1 ∧ (a.toInt = 0 ∨ (a.toInt = 1 ∧ 0 ≤ x1.toInt ∧ x1.toInt < (g 0).toInt))) (B_X12_isFork_0 N σ τ x1) := by
  unfold B_X12_isFork_0
  have hg := qb_rng hQ
  have l1 : (1 : Int32).toInt = 1 := rfl
  have l0 : (0 : Int32).toInt = 0 := rfl
  refine ok_bd (w_B_X12_isPlace_0 hN hQ) (fun r σ1 τ1 hp => ?_)
  obtain ⟨h9, hp⟩ := hp
  subst h9
  refine ok_ite (fun _ => ok_r ⟨rfl, Or.inl rfl⟩) (fun c => ?_)
  have c1 : ¬ r.toInt = 0 := fun z => c ((fa_eq _ _).mpr z)
  refine ok_ck ⟨by omega, by omega⟩ (fun j hj lj => ok_ite (fun _ => ok_r ⟨rfl, Or.inr ⟨rfl, by omega, by omega⟩⟩) (fun _ => ok_r ⟨rfl, Or.inl rfl⟩))
theorem w_B_X12_isThing_0 (hN : 4294967296 ≤ N) {x1 : Int32} (hQ : QB R σ g) : okp (fun (a : Int32) σ1 τ1 => σ = σ1 ∧ (a.toInt = 0 ∨ (a.toInt = 1 ∧ 0 ≤ x1.toInt ∧ x1.toInt < (g 1).toInt))) (B_X12_isThing_0 N σ τ x1) := by
  obtain ⟨a, σ1, τ1, e, h⟩ := m_B_X12_isThing_0 N hN (g 1) (g 2) (g 3) σ τ x1 hQ.2.1 hQ.2.2.2.1.1
  exact ⟨a, σ1, τ1, e, same_st (fr_B_X12_isThing_0 N σ τ _ e).1, h.2⟩
theorem w_B_J6_bitCount_0f7a4_0 (hN : 4294967296 ≤ N) {x0 : Int32} : okp (fun (a : Int32) σ1 τ1 => σ = σ1 ∧ True) (B_J6_bitCount_0f7a4_0 N σ τ x0) := by
  unfold B_J6_bitCount_0f7a4_0
  exact ok_nm (fun _ _ => ok_nm (fun _ _ => ok_nm (fun _ _ => ok_nm (fun _ _ => ok_nm (fun _ _ => ok_r ⟨rfl, trivial⟩)))))
theorem w_B_X12_refuse_0 (hN : 4294967296 ≤ N) (hQ : QB R σ g) : okp (fun (a : Int32) σ1 τ1 => QB R σ1 g) (B_X12_refuse_0 N σ τ) := by
  obtain ⟨a, σ1, τ1, e, h⟩ := m_B_X12_refuse_0 N hN σ τ
  exact ⟨a, σ1, τ1, e, qb_fr hQ (fun c k h => (fr_B_X12_refuse_0 N σ τ e).1 c k (by omega))⟩
theorem w_B_X12_enters_0 (hN : 4294967296 ≤ N) {x1 : Int64} (hQ : QB R σ g) (hR : R < 16) : okp (fun (a : Unit) σ1 τ1 => QB (R + 1) σ1 g ∧ ∀ c k : Nat, ¬ (c = 199 ∧ k = 1) → σ1 c k = σ c k) (B_X12_enters_0 N σ τ x1) := by
  have h5 := hQ.2.2.2.2.1
  obtain ⟨a, σ1, τ1, e, h⟩ := m_B_X12_enters_0 N hN σ τ x1 ⟨h5.1, by omega⟩
  have f := (fr_B_X12_enters_0 N σ τ x1 e).1
  exact ⟨a, σ1, τ1, e, qb_fr0 hQ (fun c k h => f c k (by omega)) (by omega) (by rw [f 199 46 (by omega)]; exact hQ.2.2.2.2.2.2.1), fun c k h => f c k (by omega)⟩
theorem w_B_X12_thinksNow_0 (hN : 4294967296 ≤ N) (hQ : QB R σ g) : okp (fun (a : Unit) σ1 τ1 => QB R σ1 g) (B_X12_thinksNow_0 N σ τ) := by
  unfold B_X12_thinksNow_0
  refine ok_nm (fun σ1 e1 => ok_nm (fun σ2 e2 => ok_r ?_))
  have hg := qb_rng hQ
  have n1 := qb_N hQ
  refine qb_fr0 hQ (fun c k h => by rw [e2, up2_ne (by omega), e1, up2_ne (by omega)]) (by rw [e2, up2_ne (by omega), e1, up2_ne (by omega)]; exact hQ.2.2.2.2.1) ?_
  have e3 : σ2 199 46 = σ 206 43 := by rw [e2, e1]; unfold up2; rw [if_pos ⟨rfl, rfl⟩, if_neg (by omega)]
  rw [e3]
  omega
theorem w_B_X12_forks_0 (hN : 4294967296 ≤ N) (hQ : QB R σ g) : okp (fun (a : Int32) σ1 τ1 => σ = σ1 ∧ 0 ≤ a.toInt ∧ a.toInt < 4096) (B_X12_forks_0 N σ τ) := by
  unfold B_X12_forks_0
  have hg := qb_rng hQ
  have l0 : (0 : Int32).toInt = 0 := rfl
  have l1 : (1 : Int32).toInt = 1 := rfl
  suffices H : ∀ (n : Nat) (x1 x2 : Int32), (0 ≤ x1.toInt ∧ x1.toInt < (2 ^ 12 : Nat)) → 0 ≤ x2.toInt → (13 - x2.toInt).toNat < n → okp (fun (a : Int32) σ1 τ1 => σ = σ1 ∧ 0 ≤ a.toInt ∧ a.toInt < 4096) (H_X12_forks_4 N n σ τ x1 x2) from H N 0 0 (by omega) (by omega) (by omega)
  intro n
  induction n with
  | zero => intro x1 x2 _ _ hm; exact absurd hm (Nat.not_lt_zero _)
  | succ n ih =>
    intro x1 x2 h1 h2 hm
    show okp _ (C_X12_forks_4 N (H_X12_forks_4 N n) σ τ x1 x2)
    unfold C_X12_forks_4
    have pl := qb_pl hQ
    refine ok_ite (fun _ => ok_r ⟨rfl, h1.1, by omega⟩) (fun c => ?_)
    rw [fa_le] at c
    refine ok_ck ⟨by omega, by omega⟩ (fun j hj lj => ok_ite (fun _ => ok_nm (fun v ev => ok_nm (fun w ew => ?_))) (fun _ => ok_nm (fun v ev => ok_nm (fun w ew => ?_))))
    · have eu : w.toInt = x2.toInt + 1 := by rw [ew, ti_add (by omega) (by omega), l1]
      exact ih v w (by rw [ev]; exact or_rg 12 (by omega) h1 (shl_12 (by omega))) (by omega) (by omega)
    · have eu : w.toInt = x2.toInt + 1 := by rw [ew, ti_add (by omega) (by omega), l1]
      exact ih v w (by rw [ev]; exact or_rg 12 (by omega) h1 (by omega)) (by omega) (by omega)
theorem w_thoseHow (hN : 4294967296 ≤ N) {q : Nat} {M4 x1 : Int32} (hM : 0 ≤ M4.toInt ∧ M4.toInt ≤ 6) (hm4 : σ q 44 = M4) : okp (fun (a : Int32) σ1 τ1 => σ = σ1 ∧ 0 ≤ a.toInt ∧ a.toInt < 64) (B_X12_thoseHow_0 N q σ τ x1) := by
  unfold B_X12_thoseHow_0
  have l0 : (0 : Int32).toInt = 0 := rfl
  have l1 : (1 : Int32).toInt = 1 := rfl
  have l4 : (4 : Int32).toInt = 4 := rfl
  suffices H : ∀ (n : Nat) (x2 x3 : Int32), (0 ≤ x2.toInt ∧ x2.toInt < (2 ^ 6 : Nat)) → 0 ≤ x3.toInt → (7 - x3.toInt).toNat < n → okp (fun (a : Int32) σ1 τ1 => σ = σ1 ∧ 0 ≤ a.toInt ∧ a.toInt < 64) (H_X12_thoseHow_4 N q n σ τ x1 x2 x3) from H N 0 0 (by omega) (by omega) (by omega)
  intro n
  induction n with
  | zero => intro x2 x3 _ _ hm; exact absurd hm (Nat.not_lt_zero _)
  | succ n ih =>
    intro x2 x3 h1 h2 hm
    show okp _ (C_X12_thoseHow_4 N q (H_X12_thoseHow_4 N q n) σ τ x1 x2 x3)
    unfold C_X12_thoseHow_4
    rw [hm4]
    refine ok_ite (fun _ => ok_r ⟨rfl, h1.1, by omega⟩) (fun c => ?_)
    rw [fa_le] at c
    have e4 := ti_7k (x := x3) (k := 4) (by omega) (by omega)
    refine ok_ck ⟨by omega, by omega⟩ (fun j hj lj => ok_ite (fun _ => ok_nm (fun v ev => ok_nm (fun w ew => ?_))) (fun _ => ok_nm (fun v ev => ok_nm (fun w ew => ?_))))
    · have eu : w.toInt = x3.toInt + 1 := by rw [ew, ti_add (by omega) (by omega), l1]
      exact ih v w (by rw [ev]; exact or_rg 6 (by omega) h1 (shl_6 (by omega))) (by omega) (by omega)
    · have eu : w.toInt = x3.toInt + 1 := by rw [ew, ti_add (by omega) (by omega), l1]
      exact ih v w (by rw [ev]; exact or_rg 6 (by omega) h1 (by omega)) (by omega) (by omega)
theorem w_B_X12_thoseHow_0 (hN : 4294967296 ≤ N) {x1 M : Int32} {q : Nat} {B : Int} (hG : GQ σ q M B) (hM : 0 ≤ M.toInt ∧ M.toInt ≤ 6) : okp (fun (a : Int32) σ1 τ1 => σ = σ1 ∧ 0 ≤ a.toInt ∧ a.toInt < 64) (B_X12_thoseHow_0 N q σ τ x1) := by
  obtain ⟨n, p, h, _⟩ := hG
  exact w_thoseHow hN hM h.2.2.1
theorem w_those6 (hN : 4294967296 ≤ N) {x1 : Int32} (hQ : QB R σ g) : okp (fun (a : Int32) σ1 τ1 => σ = σ1 ∧ 0 ≤ a.toInt ∧ a.toInt < 64) (B_X12_thoseHow_0 N 206 σ τ x1) := w_thoseHow hN hQ.2.2.2.1.1 hQ.2.1.2.2.1
end PURE
theorem w_B_J6_numberOfTrailingZeros_0f7a4_0 {N : Nat} {σ : gI} {τ : gJ} (hN : 4294967296 ≤ N) {x0 : Int32} (h : 1 ≤ x0.toInt ∧ x0.toInt < 64) : okp (fun (a : Int32) σ1 τ1 => σ = σ1 ∧ 0 ≤ a.toInt ∧ a.toInt < 6) (B_J6_numberOfTrailingZeros_0f7a4_0 N σ τ x0) := by
  rcases (show x0.toInt = 1 ∨ x0.toInt = 2 ∨ x0.toInt = 3 ∨ x0.toInt = 4 ∨ x0.toInt = 5 ∨ x0.toInt = 6 ∨ x0.toInt = 7 ∨ x0.toInt = 8 ∨ x0.toInt = 9 ∨ x0.toInt = 10 ∨ x0.toInt = 11 ∨ x0.toInt = 12 ∨ x0.toInt = 13 ∨ x0.toInt = 14 ∨ x0.toInt = 15 ∨ x0.toInt = 16 ∨ x0.toInt = 17 ∨ x0.toInt = 18 ∨ x0.toInt = 19 ∨ x0.toInt = 20 ∨ x0.toInt = 21 ∨ x0.toInt = 22 ∨ x0.toInt = 23 ∨ x0.toInt = 24 ∨ x0.toInt = 25 ∨ x0.toInt = 26 ∨ x0.toInt = 27 ∨ x0.toInt = 28 ∨ x0.toInt = 29 ∨ x0.toInt = 30 ∨ x0.toInt = 31 ∨ x0.toInt = 32 ∨ x0.toInt = 33 ∨ x0.toInt = 34 ∨ x0.toInt = 35 ∨ x0.toInt = 36 ∨ x0.toInt = 37 ∨ x0.toInt = 38 ∨ x0.toInt = 39 ∨ x0.toInt = 40 ∨ x0.toInt = 41 ∨ x0.toInt = 42 ∨ x0.toInt = 43 ∨ x0.toInt = 44 ∨ x0.toInt = 45 ∨ x0.toInt = 46 ∨ x0.toInt = 47 ∨ x0.toInt = 48 ∨ x0.toInt = 49 ∨ x0.toInt = 50 ∨ x0.toInt = 51 ∨ x0.toInt = 52 ∨ x0.toInt = 53 ∨ x0.toInt = 54 ∨ x0.toInt = 55 ∨ x0.toInt = 56 ∨ x0.toInt = 57 ∨ x0.toInt = 58 ∨ x0.toInt = 59 ∨ x0.toInt = 60 ∨ x0.toInt = 61 ∨ x0.toInt = 62 ∨ x0.toInt = 63 by omega) with e | e | e | e | e | e | e | e | e | e | e | e | e | e | e | e | e | e | e | e | e | e | e | e | e | e | e | e | e | e | e | e | e | e | e | e | e | e | e | e | e | e | e | e | e | e | e | e | e | e | e | e | e | e | e | e | e | e | e | e | e | e | e
  · rw [i32_of e]; exact ⟨0, σ, τ, rfl, rfl, by decide, by decide⟩
  · rw [i32_of e]; exact ⟨1, σ, τ, rfl, rfl, by decide, by decide⟩
  · rw [i32_of e]; exact ⟨0, σ, τ, rfl, rfl, by decide, by decide⟩
  · rw [i32_of e]; exact ⟨2, σ, τ, rfl, rfl, by decide, by decide⟩
  · rw [i32_of e]; exact ⟨0, σ, τ, rfl, rfl, by decide, by decide⟩
  · rw [i32_of e]; exact ⟨1, σ, τ, rfl, rfl, by decide, by decide⟩
  · rw [i32_of e]; exact ⟨0, σ, τ, rfl, rfl, by decide, by decide⟩
  · rw [i32_of e]; exact ⟨3, σ, τ, rfl, rfl, by decide, by decide⟩
  · rw [i32_of e]; exact ⟨0, σ, τ, rfl, rfl, by decide, by decide⟩
  · rw [i32_of e]; exact ⟨1, σ, τ, rfl, rfl, by decide, by decide⟩
  · rw [i32_of e]; exact ⟨0, σ, τ, rfl, rfl, by decide, by decide⟩
  · rw [i32_of e]; exact ⟨2, σ, τ, rfl, rfl, by decide, by decide⟩
  · rw [i32_of e]; exact ⟨0, σ, τ, rfl, rfl, by decide, by decide⟩
  · rw [i32_of e]; exact ⟨1, σ, τ, rfl, rfl, by decide, by decide⟩
  · rw [i32_of e]; exact ⟨0, σ, τ, rfl, rfl, by decide, by decide⟩
  · rw [i32_of e]; exact ⟨4, σ, τ, rfl, rfl, by decide, by decide⟩
  · rw [i32_of e]; exact ⟨0, σ, τ, rfl, rfl, by decide, by decide⟩
  · rw [i32_of e]; exact ⟨1, σ, τ, rfl, rfl, by decide, by decide⟩
  · rw [i32_of e]; exact ⟨0, σ, τ, rfl, rfl, by decide, by decide⟩
  · rw [i32_of e]; exact ⟨2, σ, τ, rfl, rfl, by decide, by decide⟩
  · rw [i32_of e]; exact ⟨0, σ, τ, rfl, rfl, by decide, by decide⟩
  · rw [i32_of e]; exact ⟨1, σ, τ, rfl, rfl, by decide, by decide⟩
  · rw [i32_of e]; exact ⟨0, σ, τ, rfl, rfl, by decide, by decide⟩
  · rw [i32_of e]; exact ⟨3, σ, τ, rfl, rfl, by decide, by decide⟩
  · rw [i32_of e]; exact ⟨0, σ, τ, rfl, rfl, by decide, by decide⟩
  · rw [i32_of e]; exact ⟨1, σ, τ, rfl, rfl, by decide, by decide⟩
  · rw [i32_of e]; exact ⟨0, σ, τ, rfl, rfl, by decide, by decide⟩
  · rw [i32_of e]; exact ⟨2, σ, τ, rfl, rfl, by decide, by decide⟩
  · rw [i32_of e]; exact ⟨0, σ, τ, rfl, rfl, by decide, by decide⟩
  · rw [i32_of e]; exact ⟨1, σ, τ, rfl, rfl, by decide, by decide⟩
  · rw [i32_of e]; exact ⟨0, σ, τ, rfl, rfl, by decide, by decide⟩
  · rw [i32_of e]; exact ⟨5, σ, τ, rfl, rfl, by decide, by decide⟩
  · rw [i32_of e]; exact ⟨0, σ, τ, rfl, rfl, by decide, by decide⟩
  · rw [i32_of e]; exact ⟨1, σ, τ, rfl, rfl, by decide, by decide⟩
  · rw [i32_of e]; exact ⟨0, σ, τ, rfl, rfl, by decide, by decide⟩
  · rw [i32_of e]; exact ⟨2, σ, τ, rfl, rfl, by decide, by decide⟩
  · rw [i32_of e]; exact ⟨0, σ, τ, rfl, rfl, by decide, by decide⟩
  · rw [i32_of e]; exact ⟨1, σ, τ, rfl, rfl, by decide, by decide⟩
  · rw [i32_of e]; exact ⟨0, σ, τ, rfl, rfl, by decide, by decide⟩
  · rw [i32_of e]; exact ⟨3, σ, τ, rfl, rfl, by decide, by decide⟩
  · rw [i32_of e]; exact ⟨0, σ, τ, rfl, rfl, by decide, by decide⟩
  · rw [i32_of e]; exact ⟨1, σ, τ, rfl, rfl, by decide, by decide⟩
  · rw [i32_of e]; exact ⟨0, σ, τ, rfl, rfl, by decide, by decide⟩
  · rw [i32_of e]; exact ⟨2, σ, τ, rfl, rfl, by decide, by decide⟩
  · rw [i32_of e]; exact ⟨0, σ, τ, rfl, rfl, by decide, by decide⟩
  · rw [i32_of e]; exact ⟨1, σ, τ, rfl, rfl, by decide, by decide⟩
  · rw [i32_of e]; exact ⟨0, σ, τ, rfl, rfl, by decide, by decide⟩
  · rw [i32_of e]; exact ⟨4, σ, τ, rfl, rfl, by decide, by decide⟩
  · rw [i32_of e]; exact ⟨0, σ, τ, rfl, rfl, by decide, by decide⟩
  · rw [i32_of e]; exact ⟨1, σ, τ, rfl, rfl, by decide, by decide⟩
  · rw [i32_of e]; exact ⟨0, σ, τ, rfl, rfl, by decide, by decide⟩
  · rw [i32_of e]; exact ⟨2, σ, τ, rfl, rfl, by decide, by decide⟩
  · rw [i32_of e]; exact ⟨0, σ, τ, rfl, rfl, by decide, by decide⟩
  · rw [i32_of e]; exact ⟨1, σ, τ, rfl, rfl, by decide, by decide⟩
  · rw [i32_of e]; exact ⟨0, σ, τ, rfl, rfl, by decide, by decide⟩
  · rw [i32_of e]; exact ⟨3, σ, τ, rfl, rfl, by decide, by decide⟩
  · rw [i32_of e]; exact ⟨0, σ, τ, rfl, rfl, by decide, by decide⟩
  · rw [i32_of e]; exact ⟨1, σ, τ, rfl, rfl, by decide, by decide⟩
  · rw [i32_of e]; exact ⟨0, σ, τ, rfl, rfl, by decide, by decide⟩
  · rw [i32_of e]; exact ⟨2, σ, τ, rfl, rfl, by decide, by decide⟩
  · rw [i32_of e]; exact ⟨0, σ, τ, rfl, rfl, by decide, by decide⟩
  · rw [i32_of e]; exact ⟨1, σ, τ, rfl, rfl, by decide, by decide⟩
  · rw [i32_of e]; exact ⟨0, σ, τ, rfl, rfl, by decide, by decide⟩
