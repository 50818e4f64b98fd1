/-! ROWS THAT ARE PUT BY -/
def RV (σ : gI) (f : Nat → Int32) (B : Int) : Prop := (0 ≤ (f 44).toInt ∧ (f 44).toInt ≤ 6) ∧ (0 ≤ (f 43).toInt ∧ (f 43).toInt ≤ B) ∧ (0 ≤ (f 42).toInt ∧ (f 42).toInt < 4096) ∧ ∀ t : Nat, (t : Int) < (f 44).toInt → (0 ≤ (f (7 * t)).toInt ∧ (f (7 * t)).toInt < (σ 199 3).toInt) ∧ (f (7 * t + 4) = 0 → σ 201 (f (7 * t)).toInt.toNat ≠ 6)
theorem rv_fr {σ σ1 : gI} {f f1 : Nat → Int32} {B B1 : Int} (h : RV σ f B) (h3 : σ1 199 3 = σ 199 3) (h2 : ∀ k, σ1 201 k = σ 201 k) (hf : ∀ k, k < 45 → f1 k = f k) (hB : B ≤ B1) : RV σ1 f1 B1 := by
  obtain ⟨a, b, c, d⟩ := h
  unfold RV
  rw [hf 44 (by omega), hf 43 (by omega), hf 42 (by omega), h3]
  refine ⟨a, by omega, c, fun t ht => ?_⟩
  rw [hf (7 * t) (by omega), hf (7 * t + 4) (by omega), h2]
  exact d t ht
theorem rv_of {R B : Int} {σ : gI} {g : Nat → Int32} (h : QB R σ g) (hB : (g 2).toInt ≤ B) : RV σ (fun k => σ 206 k) B := by
  have hg := qb_rng h
  obtain ⟨a, b, c, d, e, k, i, j, m⟩ := h
  unfold RV
  show (0 ≤ (σ 206 44).toInt ∧ (σ 206 44).toInt ≤ 6) ∧ (0 ≤ (σ 206 43).toInt ∧ (σ 206 43).toInt ≤ B) ∧ (0 ≤ (σ 206 42).toInt ∧ (σ 206 42).toInt < 4096) ∧ _
  rw [b.1, b.2.1]
  refine ⟨by rw [b.2.2.1]; exact hg.2.1, ⟨hg.2.2.1.1, hB⟩, hg.2.2.2.1, fun t ht => ?_⟩
  have ht2 : (t : Int) < (g 1).toInt := by rw [← b.2.2.1]; exact ht
  exact ⟨b.2.2.2 t ht2, fun z => c t ht2 (by omega) z⟩
def gg (σ : gI) : Nat → Int32 := fun i => if i = 0 then σ 199 3 else if i = 1 then σ 206 44 else if i = 2 then σ 206 43 else if i = 3 then σ 206 42 else σ 199 52
theorem qb_of {R B : Int} {σ σ1 : gI} {g : Nat → Int32} (h : QB R σ g) (hB : B ≤ 1000000000) (hv : RV σ1 (fun k => σ1 206 k) B) (f : ∀ c k : Nat, (c = 199 ∧ (k = 1 ∨ k = 3 ∨ k = 4 ∨ k = 28 ∨ k = 46 ∨ k = 52)) ∨ (201 ≤ c ∧ c ≤ 204) ∨ c = 216 ∨ c = 226 ∨ c = 227 → σ1 c k = σ c k) : QB R σ1 (gg σ1) ∧ (gg σ1 2).toInt ≤ B := by
  obtain ⟨a, b, c, d, e, ⟨k1, k2⟩, i, j, m⟩ := h
  obtain ⟨v1, v2, v3, v4⟩ := hv
  have e52 := f 199 52 (by omega)
  have e3 := f 199 3 (by omega)
  refine ⟨⟨si_fr a (fun c k h => f c k (by omega)), ⟨rfl, rfl, rfl, fun t ht => (v4 t ht).1⟩, fun t ht _ hw => (v4 t ht).2 hw, ⟨v1, ⟨v2.1, ?_⟩, v3⟩, by rw [f 199 1 (by omega)]; exact e, ⟨?_, fun k hk => ?_⟩, by rw [f 199 46 (by omega)]; exact i, rfl, rfl⟩, v2.2⟩
  · have := v2.2
    show (σ1 206 43).toInt ≤ 1000000000
    have e43 : (σ1 206 43).toInt ≤ B := v2.2
    omega
  · rw [e52]; exact k1
  · rw [e52] at hk
    rw [f 226 k (by omega), f 227 k (by omega), e3]
    exact k2 k hk
def UU (σ : gI) (m B : Int) : Prop := ∀ i : Nat, (i : Int) < m → RV σ (fun k => σ 219 (45 * i + k)) B
def KI (σ : gI) (B : Int) : Prop := ∀ i : Nat, i < 3 → σ 231 i ≠ 0 → RV σ (fun k => σ 232 (45 * i + k)) B
theorem uu_fr {σ σ1 : gI} {m B B1 : Int} (h : UU σ m B) (f : ∀ c k : Nat, c = 219 ∨ c = 201 ∨ (c = 199 ∧ k = 3) → σ1 c k = σ c k) (hB : B ≤ B1) : UU σ1 m B1 := fun i hi => rv_fr (h i hi) (f 199 3 (by omega)) (fun k => f 201 k (by omega)) (fun k _ => f 219 _ (by omega)) hB
theorem ki_fr {σ σ1 : gI} {B B1 : Int} (h : KI σ B) (f : ∀ c k : Nat, c = 231 ∨ c = 232 ∨ c = 201 ∨ (c = 199 ∧ k = 3) → σ1 c k = σ c k) (hB : B ≤ B1) : KI σ1 B1 := fun i hi h0 => rv_fr (h i hi (by rw [f 231 i (by omega)] at h0; exact h0)) (f 199 3 (by omega)) (fun k => f 201 k (by omega)) (fun k _ => f 232 _ (by omega)) hB
/-- what stands between two calls -/
def ZM (σ : gI) (g : Nat → Int32) (B : Int) : Prop := QB 16 σ g ∧ (g 2).toInt ≤ B ∧ (0 ≤ (σ 199 36).toInt ∧ (σ 199 36).toInt ≤ 15) ∧ UU σ (σ 199 36).toInt B ∧ KI σ B ∧ (0 ≤ (σ 199 13).toInt ∧ (σ 199 13).toInt ≤ 80)
def ZN (σ : gI) (B : Int) : Prop := ∃ g : Nat → Int32, ZM σ g B
theorem zn_q {σ σ1 : gI} {g g1 : Nat → Int32} {B B1 : Int} (h : ZM σ g B) (hQ : QB 16 σ1 g1) (h2 : (g1 2).toInt ≤ B1) (hB : B ≤ B1) (f : ∀ c k : Nat, (c = 199 ∧ (k = 3 ∨ k = 13 ∨ k = 36)) ∨ c = 219 ∨ c = 231 ∨ c = 232 ∨ c = 201 → σ1 c k = σ c k) : ZN σ1 B1 := by
  obtain ⟨a, b, c, d, e, i⟩ := h
  have e36 := f 199 36 (by omega)
  refine ⟨g1, hQ, h2, by rw [e36]; exact c, ?_, ki_fr e (fun c k hh => f c k (by omega)) hB, by rw [f 199 13 (by omega)]; exact i⟩
  rw [e36]
  exact uu_fr d (fun c k hh => f c k (by omega)) hB
section WRITES
variable {R B : Int} {g : Nat → Int32} {σ : gI} {τ : gJ} {N : Nat}
theorem w_putsBy (hN : 4294967296 ≤ N) (hQ : QB R σ g) (h2 : (g 2).toInt ≤ B) (hu : 0 ≤ (σ 199 36).toInt ∧ (σ 199 36).toInt ≤ 15) (hU : UU σ (σ 199 36).toInt B) : okp (fun (a : Unit) σ1 τ1 => (∀ c k : Nat, c ≠ 219 → σ1 c k = σ c k) ∧ UU σ1 ((σ 199 36).toInt + 1) B) (B_X12_putsBy_0 N σ τ) := by
  unfold B_X12_putsBy_0
  have l0 : (0 : Int32).toInt = 0 := rfl
  have l1 : (1 : Int32).toInt = 1 := rfl
  have l45 : (45 : Int32).toInt = 45 := rfl
  have hV := rv_of hQ h2
  generalize hU0 : σ 199 36 = u0 at hu hU ⊢
  suffices H : ∀ (n : Nat) (σ1 : gI) (τ : gJ) (x1 : Int32), (∀ c k : Nat, c ≠ 219 → σ1 c k = σ c k) → (∀ k : Nat, (k : Int) < 45 * u0.toInt → σ1 219 k = σ 219 k) → (∀ k : Nat, (k : Int) < x1.toInt → σ1 219 (45 * u0.toInt.toNat + k) = σ 206 k) → (0 ≤ x1.toInt ∧ x1.toInt ≤ 45) → (46 - x1.toInt).toNat < n → okp (fun (a : Unit) σ1 τ1 => (∀ c k : Nat, c ≠ 219 → σ1 c k = σ c k) ∧ UU σ1 (u0.toInt + 1) B) (H_X12_putsBy_2 N n σ1 τ x1) from H N σ τ 0 (fun _ _ _ => rfl) (fun _ _ => rfl) (fun k hk => absurd hk (by omega)) (by omega) (by omega)
  intro n
  induction n with
  | zero => intro σ1 τ x1 _ _ _ _ hm; exact absurd hm (Nat.not_lt_zero _)
  | succ n ih =>
    intro σ1 τ x1 F1 F2 F3 h0 hm
    show okp _ (C_X12_putsBy_2 N (H_X12_putsBy_2 N n) σ1 τ x1)
    unfold C_X12_putsBy_2
    rw [F1 199 36 (by omega), hU0]
    refine ok_ite (fun c => ok_r ⟨F1, fun i hi => ?_⟩) (fun c => ?_)
    · rw [fa_le] at c
      by_cases hiu : (i : Int) < u0.toInt
      · exact rv_fr (hU i hiu) (F1 199 3 (by omega)) (fun k => F1 201 k (by omega)) (fun k hk => F2 _ (by omega)) (by omega)
      · refine rv_fr hV (F1 199 3 (by omega)) (fun k => F1 201 k (by omega)) (fun k hk => ?_) (by omega)
        rw [show i = u0.toInt.toNat by omega]
        exact F3 k (by omega)
    · rw [fa_le] at c
      have i3 := ti_45k (x := u0) (k := x1) (by omega) (by omega)
      refine ok_ck ⟨by omega, by omega⟩ (fun j hj lj => ok_ck ⟨by omega, by omega⟩ (fun j3 hj3 lj3 => ok_nm (fun σ4 e4 => ok_nm (fun v ev => ?_))))
      have eu : v.toInt = x1.toInt + 1 := by rw [ev, ti_add (by omega) (by omega), l1]
      refine ih σ4 τ v (fun c k hc => by rw [e4, up2_ne (by omega)]; exact F1 c k hc) (fun k hk => by rw [e4, up2_ne (by omega)]; exact F2 k hk) (fun k hk => ?_) (by omega) (by omega)
      by_cases hkj : k = j
      · rw [e4, show 45 * u0.toInt.toNat + k = j3 by omega, hkj]
        unfold up2
        rw [if_pos ⟨rfl, rfl⟩, F1 206 j (by omega)]
      · rw [e4, up2_ne (by omega)]
        exact F3 k (by omega)
theorem w_adds (hN : 4294967296 ≤ N) {x1 : Int32} (hu : 0 ≤ (σ 199 36).toInt ∧ (σ 199 36).toInt ≤ 15) (hU : UU σ ((σ 199 36).toInt + 1) B) : okp (fun (a : Int32) σ1 τ1 => (∀ c k : Nat, ¬ (c = 219 ∨ (c = 199 ∧ k = 36)) → σ1 c k = σ c k) ∧ (0 ≤ (σ1 199 36).toInt ∧ (σ1 199 36).toInt ≤ 15) ∧ UU σ1 (σ1 199 36).toInt B) (B_X12_adds_0 N σ τ x1) := by
  unfold B_X12_adds_0
  have l0 : (0 : Int32).toInt = 0 := rfl
  have l1 : (1 : Int32).toInt = 1 := rfl
  have l15 : (15 : Int32).toInt = 15 := rfl
  have l45 : (45 : Int32).toInt = 45 := rfl
  have l675 : (675 : Int32).toInt = 675 := rfl
  refine ok_nm (fun s1 e1 => ?_)
  have eu : (s1 199 36).toInt = (σ 199 36).toInt + 1 := by
    rw [e1]
    unfold up2
    rw [if_pos ⟨rfl, rfl⟩, ti_add (by omega) (by omega), l1]
  have f1 : ∀ c k : Nat, ¬ (c = 199 ∧ k = 36) → s1 c k = σ c k := fun c k hh => by rw [e1]; exact up2_ne (by omega)
  refine ok_ite (fun c => ok_r ⟨fun c k hh => f1 c k (by omega), ?_, ?_⟩) (fun c => ?_)
  · rw [fa_le] at c; omega
  · rw [eu]; exact uu_fr hU (fun c k hh => f1 c k (by omega)) (by omega)
  · rw [fa_le] at c
    have hu15 : (σ 199 36).toInt = 15 := by omega
    suffices H : ∀ (n : Nat) (σ1 : gI) (τ : gJ) (x2 : Int32), (∀ c k : Nat, c ≠ 219 → σ1 c k = s1 c k) → (∀ k : Nat, (k : Int) < x2.toInt → σ1 219 k = σ 219 (k + 45)) → (∀ k : Nat, x2.toInt ≤ k → σ1 219 k = σ 219 k) → (0 ≤ x2.toInt ∧ x2.toInt ≤ 675) → (676 - x2.toInt).toNat < n → okp (fun (a : Int32) σ1 τ1 => (∀ c k : Nat, ¬ (c = 219 ∨ (c = 199 ∧ k = 36)) → σ1 c k = σ c k) ∧ (0 ≤ (σ1 199 36).toInt ∧ (σ1 199 36).toInt ≤ 15) ∧ UU σ1 (σ1 199 36).toInt B) (H_X12_adds_21 N n σ1 τ x1 x2) from H N s1 τ 0 (fun _ _ _ => rfl) (fun k hk => absurd hk (by omega)) (fun k _ => f1 219 k (by omega)) (by omega) (by omega)
    intro n
    induction n with
    | zero => intro σ1 τ x2 _ _ _ _ hm; exact absurd hm (Nat.not_lt_zero _)
    | succ n ih =>
      intro σ1 τ x2 F1 F2 F3 h0 hm
      show okp _ (C_X12_adds_21 N (H_X12_adds_21 N n) σ1 τ x1 x2)
      unfold C_X12_adds_21
      refine ok_ite (fun c2 => ok_nm (fun s2 e2 => ok_r ?_)) (fun c2 => ?_)
      · rw [fa_le] at c2
        have e36 := congrArg Int32.toInt (F1 199 36 (by omega))
        have ev : (s2 199 36).toInt = 15 := by
          rw [e2]
          unfold up2
          rw [if_pos ⟨rfl, rfl⟩, ti_sub (by omega) (by omega), l1]
          omega
        have f2 : ∀ c k : Nat, ¬ (c = 199 ∧ k = 36) → s2 c k = σ1 c k := fun c k hh => by rw [e2]; exact up2_ne (by omega)
        refine ⟨fun c k hh => (f2 c k (by omega)).trans ((F1 c k (by omega)).trans (f1 c k (by omega))), by omega, ?_⟩
        rw [ev]
        intro i hi
        refine rv_fr (hU (i + 1) (by omega)) ((f2 199 3 (by omega)).trans ((F1 199 3 (by omega)).trans (f1 199 3 (by omega)))) (fun k => (f2 201 k (by omega)).trans ((F1 201 k (by omega)).trans (f1 201 k (by omega)))) (fun k hk => ?_) (by omega)
        show s2 219 (45 * i + k) = σ 219 (45 * (i + 1) + k)
        rw [f2 219 _ (by omega), F2 _ (by omega), show 45 * i + k + 45 = 45 * (i + 1) + k by omega]
      · rw [fa_le] at c2
        have i3 := ti_add (a := x2) (b := 45) (by omega) (by omega)
        refine ok_ck ⟨by omega, by omega⟩ (fun j hj lj => ok_ck ⟨by omega, by omega⟩ (fun j4 hj4 lj4 => ok_nm (fun σ5 e5 => ok_nm (fun v ev => ?_))))
        have ew : v.toInt = x2.toInt + 1 := by rw [ev, ti_add (by omega) (by omega), l1]
        refine ih σ5 τ v (fun c k hc => by rw [e5, up2_ne (by omega)]; exact F1 c k hc) (fun k hk => ?_) (fun k hk => by rw [e5, up2_ne (by omega)]; exact F3 k (by omega)) (by omega) (by omega)
        by_cases hkj : k = j4
        · rw [e5, hkj]
          unfold up2
          rw [if_pos ⟨rfl, rfl⟩, F3 j (by omega), show j = j4 + 45 by omega]
        · rw [e5, up2_ne (by omega)]
          exact F2 k (by omega)
/-- QB over a changed row of now -/
theorem qb_row {σ1 : gI} {g1 : Nat → Int32} (h : QB R σ g) (f : ∀ c k : Nat, c ≠ 206 → σ1 c k = σ c k) (hJ : RJ σ1 206 (g1 1) (g1 2) (g1 3)) (hK : RK σ1 206 (g1 1) (-1)) (h1 : 0 ≤ (g1 1).toInt ∧ (g1 1).toInt ≤ 6) (h2 : 0 ≤ (g1 2).toInt ∧ (g1 2).toInt ≤ 1000000000) (h3 : 0 ≤ (g1 3).toInt ∧ (g1 3).toInt < 4096) (h0 : g1 0 = g 0) (h4 : g1 4 = g 4) : QB R σ1 g1 := by
  obtain ⟨a, b, c, d, e, ⟨k1, k2⟩, i, j, m⟩ := h
  have e52 := f 199 52 (by omega)
  have e3 := f 199 3 (by omega)
  refine ⟨si_fr a (fun c k h => f c k (by omega)), hJ, hK, ⟨h1, h2, h3⟩, by rw [f 199 1 (by omega)]; exact e, ⟨?_, fun k hk => ?_⟩, by rw [f 199 46 (by omega)]; exact i, by rw [e3, h0]; exact j, by rw [e52, h4]; exact m⟩
  · rw [e52]; exact k1
  · rw [e52] at hk
    rw [f 226 k (by omega), f 227 k (by omega), e3]
    exact k2 k hk
/-- a write into the row of now that is neither a place, nor how, nor of its last three -/
theorem qb_own {σ1 : gI} {j : Nat} {v : Int32} (h : QB R σ g) (e : σ1 = up2 σ 206 j v) (hj : j < 42 ∧ j % 7 ≠ 0 ∧ j % 7 ≠ 4) : QB R σ1 g := by
  have hg := qb_rng h
  refine qb_row h (fun c k hc => by rw [e]; exact up2_ne (by omega)) (rj_upq h.2.1 e (by omega) hg.2.1.2 hj.1 (by omega)) ?_ hg.2.1 hg.2.2.1 hg.2.2.2.1 rfl rfl
  intro t ht hx hw
  rw [e, up2_ne (by omega)] at hw
  rw [e, up2_ne (c9 := 201) (by omega), up2_ne (by omega)]
  exact h.2.2.1 t ht hx hw
theorem qb_planks {σ1 : gI} {v : Int32} (h : QB R σ g) (e : σ1 = up2 σ 206 42 v) (hv : 0 ≤ v.toInt ∧ v.toInt < 4096) : QB R σ1 (fun i => if i = 3 then v else g i) := by
  have hg := qb_rng h
  refine qb_row h (fun c k hc => by rw [e]; exact up2_ne (by omega)) ?_ ?_ hg.2.1 hg.2.2.1 hv rfl rfl
  · obtain ⟨a1, a2, a3, a4⟩ := h.2.1
    refine ⟨?_, ?_, ?_, fun t ht => ?_⟩
    · rw [e]; unfold up2; rw [if_pos ⟨rfl, rfl⟩]; rfl
    · rw [e, up2_ne (by omega)]; exact a2
    · rw [e, up2_ne (by omega)]; exact a3
    · rw [e, up2_ne (c9 := 199) (by omega), up2_ne (by have : (t : Int) < (g 1).toInt := ht; omega)]; exact a4 t ht
  · exact rk_last h.2.2.1 e (by omega) hg.2.1.2 (by omega)
theorem w_gives (hN : 4294967296 ≤ N) {x1 x2 : Int32} (hQ : QB R σ g) : okp (fun (a : Int32) σ1 τ1 => QB R σ1 g) (B_X12_gives_0 N σ τ x1 x2) := by
  unfold B_X12_gives_0
  have hg := qb_rng hQ
  have l0 : (0 : Int32).toInt = 0 := rfl
  have l2 : (2 : Int32).toInt = 2 := rfl
  have l4 : (4 : Int32).toInt = 4 := rfl
  refine ok_bd (w_B_X12_isThing_0 hN hQ) (fun r σ1 τ1 hp => ?_)
  obtain ⟨h9, hp⟩ := hp
  subst h9
  refine ok_ite (fun _ => ok_r hQ) (fun c => ?_)
  rw [fa_eq] at c
  have i4 := ti_7k (x := x1) (k := 4) (by omega) (by omega)
  have i2 := ti_7k (x := x1) (k := 2) (by omega) (by omega)
  refine ok_ck ⟨by omega, by omega⟩ (fun j hj lj => ok_ite (fun _ => ?_) (fun _ => ok_r hQ))
  refine ok_bd (w_B_X12_in_0 hN) (fun r5 σ5 τ5 h5 => ?_)
  obtain ⟨h9, h5⟩ := h5
  subst h9
  exact ok_ite (fun _ => ok_r hQ) (fun _ => ok_ck ⟨by omega, by omega⟩ (fun j7 hj7 lj7 => ok_nm (fun s8 e8 => ok_r (qb_own hQ e8 (by omega)))))
theorem w_comesNow (hN : 4294967296 ≤ N) {x1 x2 x3 x4 : Int32} (hQ : QB 16 σ g) : okp (fun (a : Int32) σ1 τ1 => ∃ g1 : Nat → Int32, QB 16 σ1 g1 ∧ g1 2 = g 2 ∧ g1 0 = g 0) (B_X12_comesNow_0 N σ τ x1 x2 x3 x4) := by
  unfold B_X12_comesNow_0
  have hg := qb_rng hQ
  have l0 : (0 : Int32).toInt = 0 := rfl
  have l1 : (1 : Int32).toInt = 1 := rfl
  have l6 : (6 : Int32).toInt = 6 := rfl
  refine ok_bd (w_B_X12_canPut_0 hN hQ) (fun r σ1 τ1 hp => ?_)
  obtain ⟨h9, hp⟩ := hp
  subst h9
  refine ok_ite (fun _ => ok_r ⟨g, hQ, rfl, rfl⟩) (fun c => ?_)
  rw [fa_eq] at c
  refine ok_bd (w_B_X12_in_0 hN) (fun r3 σ3 τ3 h3 => ?_)
  obtain ⟨h9, h3⟩ := h3
  subst h9
  refine ok_ite (fun _ => ok_r ⟨g, hQ, rfl, rfl⟩) (fun _ => ok_ite (fun _ => ok_r ⟨g, hQ, rfl, rfl⟩) (fun c2 => ?_))
  rw [hQ.2.1.2.2.1] at c2 ⊢
  rw [fa_eq] at c2
  have pl := qb_pl hQ
  refine ok_bd (w_lays N hQ.2.1 hQ.1 (rk_weak _ hQ.2.2.1) (by omega) hg.2.1 (by omega) (by omega)) (fun _ σ6 τ6 h6 => ok_nm (fun s7 e7 => ok_r ?_))
  obtain ⟨a1, a2, a3, a4, a5, a6⟩ := h6
  have eM : (g 1 + 1).toInt = (g 1).toInt + 1 := by rw [ti_add (by omega) (by omega), l1]
  have p6 := a6 199 3 (by omega)
  refine ⟨fun i => if i = 1 then g 1 + 1 else g i, ?_, rfl, rfl⟩
  refine qb_row hQ (fun c k hc => by rw [e7, up2_ne (by omega)]; exact a6 c k hc) ⟨?_, ?_, ?_, fun t ht => ?_⟩ (fun t ht hx hw => ?_) ?_ hg.2.2.1 hg.2.2.2.1 rfl rfl
  · rw [e7, up2_ne (by omega)]; exact a1.1
  · rw [e7, up2_ne (by omega)]; exact a1.2.1
  · rw [e7]; unfold up2; rw [if_pos ⟨rfl, rfl⟩, a1.2.2.1]; rfl
  · have ht2 : (t : Int) < (g 1 + 1).toInt := ht
    rw [e7, up2_ne (c9 := 199) (by omega), up2_ne (by omega)]
    by_cases hh : (t : Int) < (g 1).toInt
    · exact a1.2.2.2 t hh
    · rw [show t = (g 1).toInt.toNat by omega, a4, p6]
      omega
  · have ht2 : (t : Int) < (g 1 + 1).toInt := ht
    rw [e7, up2_ne (by omega)] at hw
    rw [e7, up2_ne (c9 := 201) (by omega), up2_ne (by omega)]
    by_cases hh : (t : Int) < (g 1).toInt
    · exact a3 t hh (by omega) hw
    · have et : t = (g 1).toInt.toNat := by omega
      rw [et] at hw ⊢
      rw [a4, a6 201 _ (by omega)]
      exact a5 hw
  · show 0 ≤ (g 1 + 1).toInt ∧ (g 1 + 1).toInt ≤ 6
    omega
end WRITES
